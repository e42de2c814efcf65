section
/-! ===== BEGIN words of one list among another's, by their places ===== -/
theorem goodIn_r {big : List Cond} (ws : List Cond) (ps : List Nat) (hp : ws = ps.filterMap (fun i => big[i]?)) (h : ws.all goodWord = true) : GoodIn big ws := by
  intro w hw
  have h1 := List.all_eq_true.mp h w hw
  rw [hp] at hw
  obtain ⟨i, -, hi⟩ := List.mem_filterMap.mp hw
  have hm : w ∈ big := by first | exact List.mem_of_getElem? hi | exact List.getElem?_mem hi
  exact ⟨hm, good_of_word h1⟩
theorem goodIn_app {big a b : List Cond} (ha : GoodIn big a) (hb : GoodIn big b) : GoodIn big (a ++ b) := fun w h => (List.mem_append.mp h).elim (ha w) (hb w)
theorem goodIn_ca {big a b : List Cond} {c : Cond} (ha : GoodIn big (c :: a)) (hb : GoodIn big b) : GoodIn big (c :: (a ++ b)) := fun w h => (List.mem_cons.mp h).elim (fun e => ha w (List.mem_cons.mpr (Or.inl e))) (fun h => (List.mem_append.mp h).elim (fun h => ha w (List.mem_cons.mpr (Or.inr h))) (hb w))
theorem goodIn_sub {big ws : List Cond} (hm : ∀ w ∈ ws, w ∈ big) (h : ws.all goodWord = true) : GoodIn big ws := fun w hw => ⟨hm w hw, good_of_word (List.all_eq_true.mp h w hw)⟩
/-! ===== END ===== -/



/-! ===== BEGIN exceptions that leave a method, and their catching by the caller (launches without stack traces) ===== -/
section VXA
/-! The laws vx_back, vx_callV, vx_callS, vx_callSW, vx_throw0, vx_throwS follow proofs of the library, with one case more: JvmDerived/Free/Laws.lean (Back.of_free), Shelf42/LK1.lean (callV, callS), Shelf/KitTraced.lean (throwNew0V, throwNewS). -/
/-- where a method has thrown q: the class by its name, the cell, what was written, the world -/
def vx_T (XC : String → State → State → Prop) (st : State) (q : Addr) (t : State) (mc ms : Nat) (free : Addr → Prop) : Prop :=
  ∃ (E : String) (ce : Cell) (L : List Loc), XC E st t ∧ t.heap[q]? = some ce ∧ ce.vm = .none ∧ st.vm.findClass E = some ce.cls ∧ st.WarmedH t.vm ∧ st.sameButNew ({ t with vm := st.vm } : State) L mc ms ∧ ∀ z ∈ L, free z.base
def vx_Q (Qc : Array Value → State → Outcome → State → Prop) (XC : String → State → State → Prop) (mc ms : Nat) (free : Addr → Prop) : Array Value → State → Outcome → State → Prop := fun a st o t =>
  (Qc a st o t ∧ ∃ L, FrameEnd st o t L mc ms ∧ ∀ q ∈ L, free q.base) ∨ ∃ q, o = .threw q ∧ vx_T XC st q t mc ms free
/-- a callee that returns or throws -/
def vx_Met (l : Launch) (y : MethodName) (ws : List Cond) (rm : Room) (Pc : Array Value → State → Prop) (Qc : Array Value → State → Outcome → State → Prop) (XC : String → State → State → Prop) (mc ms : Nat) (free : Addr → Prop) : Prop :=
  MetFree l y (headSpec ws rm) Pc (fun _ _ _ _ _ => True) (vx_Q Qc XC mc ms free)
def vx_Post (XC : String → State → State → Prop) (mc ms : Nat) (free : Addr → Prop) : Pt → Array Value → Addr → Pt → Prop := fun A a q B =>
  ∃ (g : JFrame) (mk : MethodId) (t : State) (L : List Loc) (E : String) (ce : Cell), B.U.heap = t.heap ∧ B.U.vm = t.vm ∧ XC E (A.U.calling g mk a) t ∧ t.heap[q]? = some ce ∧ ce.vm = .none ∧ A.U.vm.findClass E = some ce.cls ∧ B.locs = A.locs ++ L ∧ (∀ z ∈ L, free z.base) ∧ B.cells = A.cells + mc ∧ B.slots = A.slots + ms
def vx_Back (l : Launch) (R : Room) (p : Program) (e : Env) (below : List Frame) (s : State) (sargs : Array Value) (y : MethodName) (len W9 : Nat)
    (Pre : Pt → Array Value → Prop) (Post : Pt → Array Value → Option Value → Pt → Prop) (PostX : Pt → Array Value → Addr → Pt → Prop) : Prop :=
  ∀ (m : MethodId) (meth : Method) (c : Code) (A : Pt) (g : JFrame) (ig : Instr) (mk : MethodId) (a : Array Value),
    Stand p l e R s m sargs below meth c A.U A.locs A.cells A.slots → g.method = m → g.locals.size = c.maxLocals → decode c.code g.pc = .ok (ig, len) →
    2 * g.monitorRoom + (g.stack.map fun v => v.category).sum ≤ W9 → A.U.methodNamed? y = some mk → Pre A a →
    (∃ (v : Option Value) (B : Pt), Stand p l e R s m sargs below meth c B.U B.locs B.cells B.slots ∧ Post A a v B ∧
      Steps p.tables e below (doInvoke e (A.U.setTop g) [] mk a).1 (B.U.setTop { g with pc := g.pc + len, stack := v.toList ++ g.stack })) ∨
    (∃ (q : Addr) (B : Pt), Stand p l e R s m sargs below meth c B.U B.locs B.cells B.slots ∧ PostX A a q B ∧
      Steps p.tables e below (doInvoke e (A.U.setTop g) [] mk a).1 ((B.U.setTop g).pushFrame (.throwing q)))
section Payer
variable {l : Launch} {R : Room} {p : Program} {e : Env} {below : List Frame} {s : State} {sargs : Array Value} {y : MethodName} {len W9 : Nat}
theorem vx_back {ws : List Cond} {rm : Room} {Pc : Array Value → State → Prop} {Qc : Array Value → State → Outcome → State → Prop} {XC : String → State → State → Prop} {mc ms : Nat} {free : Addr → Prop} {bytes : ByteArray} {maxL : Nat} {ret : Option FieldType}
    (hM : vx_Met l y ws rm Pc Qc XC mc ms free) (hblind : FrameBlind Pc) (hrc : rm.cells = mc) (hrs : rm.slots = ms)
    (hframes : rm.frames + 1 ≤ R.frames) (hlocals : W9 + (maxL + 11) + rm.locals ≤ R.locals)
    (hws : ∀ w ∈ ws, ∀ a' U, s.WarmedH U.vm → w.before a' U = true) (hcode : Cond.code y bytes maxL ret ∈ ws) (hinit : ∀ a' U, s.WarmedH U.vm → (Cond.initialized y.cls).before a' U = true) :
    vx_Back l R p e below s sargs y len W9 (PreOf R mc ms Pc) (PostOf Qc mc ms free) (vx_Post XC mc ms free) := by
  intro m meth c A g ig mk a X hg hsize hdg hW hn hp
  have h1 : (headSpec ws rm).pre.before a A.U = true := atoms_intro fun w hw => hws w hw _ _ X.warmed
  have h2 : (Cond.code y bytes maxL ret).before a A.U = true := hws _ hcode _ _ X.warmed
  have h3 : (Cond.initialized y.cls).before a A.U = true := hinit _ _ X.warmed
  have h4 : A.cells + (headSpec ws rm).room.cells ≤ R.cells := by rw [show (headSpec ws rm).room.cells = mc from hrc]; exact hp.1
  have h5 : A.slots + (headSpec ws rm).room.slots ≤ R.slots := by rw [show (headSpec ws rm).room.slots = ms from hrs]; exact hp.2.1
  have hPc : Pc a (A.U.calling g mk a) := hblind _ _ _ _ hp.2.2
  obtain ⟨U, Ls, c0, s0⟩ := A
  dsimp only [Pt.U, Pt.locs, Pt.cells, Pt.slots] at h1 h2 h3 h4 h5 X hn hPc ⊢
  obtain ⟨methY, cY, hmY, hcY, -, hlY, -, -, -, -⟩ := Cond.code_spec hn h2
  obtain ⟨kY, hkY, -⟩ := className_of_methodNamed hn
  have hinitY : kY.init = .initialized := Cond.initialized_spec (findClass_of_methodNamed hn) hkY h3
  have h : At U g.method c below := by rw [hg]; exact X.here
  have hlocals9 : W9 + (maxL + 11) + (headSpec ws rm).room.locals ≤ R.locals := hlocals
  have happ : (headSpec ws rm).appliesLoose y e.platform (U.calling g mk a) = true :=
    Spec.appliesLoose_calling (g := g) h hdg hn hkY hinitY
      (X.room_calling (g := g) (R' := (headSpec ws rm).room) hsize hmY hcY hframes (by rw [hlY]; omega) h4 h5) h1
  obtain ⟨mid, hmid⟩ := h.above
  have hfr : (U.setTop g).frames = (.java g :: mid) ++ below := by rw [State.frames_setTop' g h.top, hmid]; rfl
  obtain ⟨o, s₂, hsteps, -, hend, hq⟩ := Steps.callFree hM p X.admits X.cas X.clock (acts := []) hfr happ hPc trivial
  have hq' : vx_Q Qc XC mc ms free a (U.calling g mk a) o s₂ := hq
  rw [State.frames_setTop' g h.top] at hend
  obtain ⟨g₀, hg0⟩ := Option.isSome_iff_exists.mp h.top
  obtain ⟨r, hr⟩ := State.topJava?_eq_some.mp hg0
  have hr' : (({ U with heap := s₂.heap, slotsUsed := s₂.slotsUsed } : State).setVm s₂.vm).frames = .java g₀ :: r := hr
  rcases hq' with ⟨hqc, L, hfe, hL⟩ | ⟨q, rfl, E, ce, L, hx, hce, hcv, hcl, hW₂, hsm, hL⟩
  · obtain ⟨⟨v, rfl⟩, hW₂, e2, q2, q3, q4, q5, q6⟩ := id hfe
    have e3 : s₂ = ({ (U.calling g mk a).setFrames s₂.frames with heap := s₂.heap, slotsUsed := s₂.slotsUsed } : State).setVm s₂.vm := by
      have : s₂ = ({ s₂ with vm := (U.calling g mk a).vm } : State).setVm s₂.vm := rfl
      rw [e2] at this
      exact this
    obtain ⟨c₂, i₂, len₂, hc₂, hd₂, hf₂⟩ := hend
    have hW' : U.WarmedH s₂.vm := hW₂
    have hcc : c₂ = c := by
      have h1 : s₂.code? g.method = U.code? g.method := by
        rw [State.code?_eq, State.code?_eq, hW'.alike.method?]
      exact Option.some.inj (hc₂.symm.trans (h1.trans h.code))
    subst hcc
    have hlen : len₂ = len := by rw [hdg] at hd₂; cases hd₂; rfl
    subst hlen
    have hs₂ : s₂ = (({ U with heap := s₂.heap, slotsUsed := s₂.slotsUsed } : State).setVm s₂.vm).setTop { g with pc := g.pc + len₂, stack := v.toList ++ g.stack } := by
      refine e3.trans ?_
      rw [hf₂, State.calling_eq h.top, State.setFrames_setFrames, State.setTop_of_frames _ hr', hr]
      rfl
    have hsame : U.sameButNew ({ U with heap := s₂.heap, slotsUsed := s₂.slotsUsed } : State) L mc ms := by
      refine ⟨?_, q2, q3, q4, q5, q6⟩
      obtain ⟨t, ht, -⟩ := State.frames_cons hr
      show ({ U with heap := s₂.heap, slotsUsed := s₂.slotsUsed } : State) = { U.setFrames U.frames with heap := s₂.heap, slotsUsed := s₂.slotsUsed }
      rw [State.setFrames_self ht]
    subst hg
    refine Or.inl ⟨v, ⟨(({ U with heap := s₂.heap, slotsUsed := s₂.slotsUsed } : State).setVm s₂.vm), Ls ++ L, c0 + mc, s0 + ms⟩,
      ⟨X.admits, X.cas, X.clock, X.frames, X.room, X.hears, X.method, X.code, (X.here.setHeapUsed s₂.heap s₂.slotsUsed).setVm hW'.alike, X.tail, State.WarmedH.trans X.warmed hW', X.limits, X.bytes, X.same.trans (hsame.setVm s.vm)⟩,
      ⟨g, mk, s₂, L, rfl, rfl, hqc, rfl, hL, rfl, rfl⟩, ?_⟩
    show Steps p.tables e below _ ((({ U with heap := s₂.heap, slotsUsed := s₂.slotsUsed } : State).setVm s₂.vm).setTop { g with pc := g.pc + len₂, stack := v.toList ++ g.stack })
    rw [← hs₂]
    exact hsteps
  · obtain ⟨e2, q2, q3, q4, q5, q6⟩ := id hsm
    have e3 : s₂ = ({ (U.calling g mk a).setFrames s₂.frames with heap := s₂.heap, slotsUsed := s₂.slotsUsed } : State).setVm s₂.vm := by
      have : s₂ = ({ s₂ with vm := (U.calling g mk a).vm } : State).setVm s₂.vm := rfl
      rw [e2] at this
      exact this
    have hf₂ : s₂.frames = .throwing q :: .java g :: U.frames.tail := hend
    have hW' : U.WarmedH s₂.vm := hW₂
    have hs₂ : s₂ = ((({ U with heap := s₂.heap, slotsUsed := s₂.slotsUsed } : State).setVm s₂.vm).setTop g).pushFrame (.throwing q) := by
      refine e3.trans ?_
      rw [hf₂, State.calling_eq h.top, State.setFrames_setFrames, State.pushFrame, State.frames_setTop _ hr', State.setTop_of_frames _ hr', State.setFrames_setFrames, hr]
      rfl
    have hsame : U.sameButNew ({ U with heap := s₂.heap, slotsUsed := s₂.slotsUsed } : State) L mc ms := by
      refine ⟨?_, q2, q3, q4, q5, q6⟩
      obtain ⟨t, ht, -⟩ := State.frames_cons hr
      show ({ U with heap := s₂.heap, slotsUsed := s₂.slotsUsed } : State) = { U.setFrames U.frames with heap := s₂.heap, slotsUsed := s₂.slotsUsed }
      rw [State.setFrames_self ht]
    subst hg
    refine Or.inr ⟨q, ⟨(({ U with heap := s₂.heap, slotsUsed := s₂.slotsUsed } : State).setVm s₂.vm), Ls ++ L, c0 + mc, s0 + ms⟩,
      ⟨X.admits, X.cas, X.clock, X.frames, X.room, X.hears, X.method, X.code, (X.here.setHeapUsed s₂.heap s₂.slotsUsed).setVm hW'.alike, X.tail, State.WarmedH.trans X.warmed hW', X.limits, X.bytes, X.same.trans (hsame.setVm s.vm)⟩,
      ⟨g, mk, s₂, L, E, ce, rfl, rfl, hx, hce, hcv, hcl, rfl, hL, rfl, rfl⟩, ?_⟩
    show Steps p.tables e below _ (((({ U with heap := s₂.heap, slotsUsed := s₂.slotsUsed } : State).setVm s₂.vm).setTop g).pushFrame (.throwing q))
    rw [← hs₂]
    exact hsteps
end Payer
section Calls
variable {p : Program} {l : Launch} {e : Env} {R : Room} {s : State} {m : MethodId} {args : Array Value} {below : List Frame} {meth : Method} {c : Code} {T : State} {locs : List Loc} {cells slots : Nat}
theorem vx_callV (X : Stand p l e R s m args below meth c T locs cells slots) (hexec : p.tables.exec = Jvm.exec) {own C : String} {index : Nat} {y : MethodName} {bytes : ByteArray} {maxL : Nat} {ret : Option FieldType}
    (hown : s.vm.findClass own = some m.cls) (hlink : (Cond.methodLink own index y).before args s = true) (hinst : (Cond.instanceMethod y).before args s = true) (hsel : (Cond.selects C y y).before args s = true)
    (hcode : (Cond.code y bytes maxL ret).before args s = true) (hy : y.cls ≠ "java/lang/invoke/MethodHandle" ∧ y.cls ≠ "java/lang/invoke/VarHandle")
    {W9 : Nat} {Pre : Pt → Array Value → Prop} {Post : Pt → Array Value → Option Value → Pt → Prop} {PostX : Pt → Array Value → Addr → Pt → Prop} (hK : vx_Back l R p e below s args y 3 W9 Pre Post PostX)
    {b : Addr} {cellB : Cell} (hcell : T.heap[b]? = some cellB) (hobj : cellB.vm.isStatics = false) (hcls : s.vm.findClass C = some cellB.cls)
    {g : JFrame} (hg : g.method = m) (hsize : g.locals.size = c.maxLocals) {argsL rest : List Value} (hlen : ∀ sig, parseMethodDescriptor y.desc = some sig → argsL.length = sig.parameters.length)
    (hstack : g.stack = argsL.reverse ++ .ref b :: rest) (hW : 2 * g.monitorRoom + (rest.map fun v => v.category).sum ≤ W9) (hdg : decode c.code g.pc = .ok (.invokevirtual index, 3))
    (hpre : ∀ vm₁, s.WarmedH vm₁ → Pre ⟨T.setVm vm₁, locs, cells, slots⟩ (Value.ref b :: argsL).toArray) :
    (∃ (v : Option Value) (vm₁ : Vm) (B : Pt), s.WarmedH vm₁ ∧ Stand p l e R s m args below meth c B.U B.locs B.cells B.slots ∧ Post ⟨T.setVm vm₁, locs, cells, slots⟩ (Value.ref b :: argsL).toArray v B ∧
      ∀ target, Steps p.tables e below (B.U.setTop { g with pc := g.pc + 3, stack := v.toList ++ rest }) target → Steps p.tables e below (T.setTop g) target) ∨
    (∃ (q : Addr) (vm₁ : Vm) (B : Pt), s.WarmedH vm₁ ∧ Stand p l e R s m args below meth c B.U B.locs B.cells B.slots ∧ PostX ⟨T.setVm vm₁, locs, cells, slots⟩ (Value.ref b :: argsL).toArray q B ∧
      Steps p.tables e below (T.setTop g) ((B.U.setTop { g with stack := rest }).pushFrame (.throwing q))) := by
  obtain ⟨mk, methM, hnamed, hmethM, hstM, habM⟩ := Cond.instanceMethod_spec hinst
  obtain ⟨methM', cM, hmethM', -, -, -, -, -, -, hsigM⟩ := Cond.code_spec hnamed hcode
  cases hmethM.symm.trans hmethM'
  obtain ⟨c2, r2, m2, q1, q2, q3, q4, kP, hkP, hkPi⟩ := Cond.selects_spec hsel
  cases hcls.symm.trans q1
  cases (State.methodFound?_of_named hnamed hy).symm.trans q2
  cases hnamed.symm.trans q3
  have hselP : selectMethod e.platform s.vm cellB.cls mk = .method mk := by rw [Launch.admits_selectMethod X.admits]; exact q4
  obtain ⟨vm₁, X₁, hstep₁⟩ := X.invokevirtual hexec hown hlink hnamed hmethM hstM hkP hkPi hy (a := b) (cell := cellB) hcell
    (fun z h => by rw [h] at hobj; cases hobj) hselP hmethM habM hkP hkPi (g := g) hg (argsL := argsL) (rest := rest) (hlen _ hsigM) hstack hdg
  rcases hK m meth c ⟨T.setVm vm₁, locs, cells, slots⟩ { g with stack := rest } (.invokevirtual index) mk (Value.ref b :: argsL).toArray X₁ hg hsize hdg hW (X₁.named hnamed) (hpre vm₁ X₁.warmed) with ⟨v, B, X', hpost, hsteps⟩ | ⟨q, B, X', hpost, hsteps⟩
  · exact Or.inl ⟨v, vm₁, B, X₁.warmed, X', hpost, fun target h => hstep₁ _ fun acts => by rw [doInvoke_state]; exact hsteps.trans h⟩
  · exact Or.inr ⟨q, vm₁, B, X₁.warmed, X', hpost, hstep₁ _ fun acts => by rw [doInvoke_state]; exact hsteps⟩
theorem vx_callS (X : Stand p l e R s m args below meth c T locs cells slots) (hexec : p.tables.exec = Jvm.exec) {own : String} {index : Nat} {y : MethodName} {bytes : ByteArray} {maxL : Nat} {ret : Option FieldType}
    (hown : s.vm.findClass own = some m.cls) (hlink : (Cond.methodLink own index y).before args s = true) (hstat : (Cond.static y).before args s = true) (hinit : (Cond.initialized y.cls).before args s = true)
    (hcode : (Cond.code y bytes maxL ret).before args s = true) (hy : y.cls ≠ "java/lang/invoke/MethodHandle" ∧ y.cls ≠ "java/lang/invoke/VarHandle")
    {W9 : Nat} {Pre : Pt → Array Value → Prop} {Post : Pt → Array Value → Option Value → Pt → Prop} {PostX : Pt → Array Value → Addr → Pt → Prop} (hK : vx_Back l R p e below s args y 3 W9 Pre Post PostX)
    {g : JFrame} (hg : g.method = m) (hsize : g.locals.size = c.maxLocals) {argsL rest : List Value} (hlen : ∀ sig, parseMethodDescriptor y.desc = some sig → argsL.length = sig.parameters.length)
    (hstack : g.stack = argsL.reverse ++ rest) (hW : 2 * g.monitorRoom + (rest.map fun v => v.category).sum ≤ W9) (hdg : decode c.code g.pc = .ok (.invokestatic index, 3))
    (hpre : ∀ vm₁, s.WarmedH vm₁ → Pre ⟨T.setVm vm₁, locs, cells, slots⟩ argsL.toArray) :
    (∃ (v : Option Value) (vm₁ : Vm) (B : Pt), s.WarmedH vm₁ ∧ Stand p l e R s m args below meth c B.U B.locs B.cells B.slots ∧ Post ⟨T.setVm vm₁, locs, cells, slots⟩ argsL.toArray v B ∧
      ∀ target, Steps p.tables e below (B.U.setTop { g with pc := g.pc + 3, stack := v.toList ++ rest }) target → Steps p.tables e below (T.setTop g) target) ∨
    (∃ (q : Addr) (vm₁ : Vm) (B : Pt), s.WarmedH vm₁ ∧ Stand p l e R s m args below meth c B.U B.locs B.cells B.slots ∧ PostX ⟨T.setVm vm₁, locs, cells, slots⟩ argsL.toArray q B ∧
      Steps p.tables e below (T.setTop g) ((B.U.setTop { g with stack := rest }).pushFrame (.throwing q))) := by
  obtain ⟨mk, hnamed⟩ := Cond.code_named hcode
  obtain ⟨methM, cM, hmethM, -, -, -, -, -, -, hsigM⟩ := Cond.code_spec hnamed hcode
  have hstatic : methM.isStatic = true := Cond.static_spec hnamed hmethM hstat
  obtain ⟨kP, hkP, -⟩ := className_of_methodNamed hnamed
  have hinitP : kP.init = .initialized := Cond.initialized_spec (findClass_of_methodNamed hnamed) hkP hinit
  obtain ⟨vm₁, X₁, hstep₁⟩ := X.invokestatic hexec hown hlink hnamed hmethM hstatic hkP hinitP hy (g := g) hg (argsL := argsL) (rest := rest) (hlen _ hsigM) hstack hdg
  rcases hK m meth c ⟨T.setVm vm₁, locs, cells, slots⟩ { g with stack := rest } (.invokestatic index) mk argsL.toArray X₁ hg hsize hdg hW (X₁.named hnamed) (hpre vm₁ X₁.warmed) with ⟨v, B, X', hpost, hsteps⟩ | ⟨q, B, X', hpost, hsteps⟩
  · exact Or.inl ⟨v, vm₁, B, X₁.warmed, X', hpost, fun target h => hstep₁ _ fun acts => by rw [doInvoke_state]; exact hsteps.trans h⟩
  · exact Or.inr ⟨q, vm₁, B, X₁.warmed, X', hpost, hstep₁ _ fun acts => by rw [doInvoke_state]; exact hsteps⟩
end Calls
theorem vx_cls {s : State} {T : State} {vm₁ : Vm} {E : String} {k : ClassId} (hW : s.WarmedH vm₁) (h : (T.setVm vm₁).vm.findClass E = some k) : s.vm.findClass E = some k := by
  have h1 : vm₁.findClass E = some k := h
  rw [hW.alike.findClass] at h1
  exact h1
/-- the method's frame g, with q thrown over it -/
def vx_W (p : Program) (l : Launch) (e : Env) (R : Room) (s : State) (m : MethodId) (args : Array Value) (below : List Frame) (meth : Method) (c : Code) (H : Heap) (locs : List Loc) (cells slots : Nat) (Q : State → Prop) (g : JFrame) (q : Addr) : Prop :=
  ∀ T : State, T.heap = H → Stand p l e R s m args below meth c T locs cells slots → ∃ t, Steps p.tables e below ((T.setTop g).pushFrame (.throwing q)) t ∧ Q t
def vx_Run (p : Program) (l : Launch) (e : Env) (R : Room) (s : State) (m : MethodId) (args : Array Value) (below : List Frame) (meth : Method) (c : Code) (H : Heap) (locs : List Loc) (cells slots mc ms : Nat) (g : JFrame) (rest : List Value) (Qa : State → Outcome → State → Prop) (XC : String → State → State → Prop) (free : Addr → Prop) : Prop :=
  ∀ T : State, T.heap = H → Stand p l e R s m args below meth c T locs cells slots →
    (∃ (v : Option Value) (st₀ t T' : State) (L : List Loc), st₀.heap = H ∧ Stand p l e R s m args below meth c T' (locs ++ L) (cells + mc) (slots + ms) ∧ (∀ q ∈ L, free q.base) ∧ T'.heap = t.heap ∧ T'.vm = t.vm ∧ Qa st₀ (.returned v) t ∧
      Goes p e below T g T' { g with pc := g.pc + 3, stack := v.toList ++ rest }) ∨
    (∃ (q : Addr) (st₀ t T' : State) (L : List Loc) (E : String) (ce : Cell), st₀.heap = H ∧ Stand p l e R s m args below meth c T' (locs ++ L) (cells + mc) (slots + ms) ∧ (∀ z ∈ L, free z.base) ∧ T'.heap = t.heap ∧ T'.vm = t.vm ∧ XC E st₀ t ∧ t.heap[q]? = some ce ∧ ce.vm = .none ∧ s.vm.findClass E = some ce.cls ∧
      Steps p.tables e below (T.setTop g) ((T'.setTop { g with stack := rest }).pushFrame (.throwing q)))
def vx_X {S : Type} (px : S → Prop) (B : String → S → State → Prop) (A : Nat → Prop) : String → State → State → Prop := fun E st t => ∃ u : S, px u ∧ B E u t ∧ va_F A st t
section Runs
variable {p : Program} {l : Launch} {e : Env} {R : Room} {s : State} {m : MethodId} {args : Array Value} {below : List Frame} {meth : Method} {c : Code} {H : Heap} {locs : List Loc} {cells slots : Nat}
variable {y : MethodName} {bytes cc : ByteArray} {maxL nL mc ms n index : Nat} {ret : Option FieldType} {ws : List Cond} {rm : Room} {Pc : Array Value → State → Prop} {Qc : Array Value → State → Outcome → State → Prop} {XC : String → State → State → Prop} {free : Addr → Prop} {Ts : List Cond} {own C : String} {b : Addr} {As rest : List Value} {g : JFrame}
theorem vx_callBack (cb : CallB R s args own index y bytes maxL ret ws rm mc ms n) (hM : vx_Met l y ws rm Pc Qc XC mc ms free) (hbl : FrameBlind Pc) : vx_Back l R p e below s args y 3 8 (PreOf R mc ms Pc) (PostOf Qc mc ms free) (vx_Post XC mc ms free) := by
  obtain ⟨hrc, hrs, hfr, hlo, hws, hcw, -, hini, -⟩ := cb
  exact vx_back (bytes := bytes) (maxL := maxL) (ret := ret) hM hbl hrc hrs hfr hlo hws hcw (fun a' U hW => word_at hW (Or.inl (by first | rfl | simp [Cond.onTables, Cond.keeps, Cond.steady])) hini)
theorem vx_runV (S : CallFix p m c cc nL s args Ts own) (hM : vx_Met l y ws rm Pc Qc XC mc ms free) (cw : CallW R s args own C index y bytes maxL ret ws rm mc ms n) (hp : PreV s H C b Pc As)
    (hg : g.method = m) (hn : As.length = n) (hsize : g.locals.size = nL) (hstack : g.stack = As.reverse ++ .ref b :: rest) (hW : 2 * g.monitorRoom + (rest.map fun v => v.category).sum ≤ 8) (hdg : decode cc g.pc = .ok (.invokevirtual index, 3)) (hf : cells + mc ≤ R.cells ∧ slots + ms ≤ R.slots) :
    vx_Run p l e R s m args below meth c H locs cells slots mc ms g rest (Qc (Value.ref b :: As).toArray) XC free := by
  have hK : vx_Back l R p e below s args y 3 8 (PreOf R mc ms Pc) (PostOf Qc mc ms free) (vx_Post XC mc ms free) := vx_callBack cw.1 hM hp.1
  obtain ⟨⟨-, -, -, -, -, -, hcode, -, hy, hlen, hl⟩, hin, hse⟩ := cw
  obtain ⟨hx, hb, hml, ho, -⟩ := S
  obtain ⟨-, ⟨cellB, hcB, hoB, hclB⟩, hPc⟩ := hp
  intro T hT X
  rcases vx_callV X hx (C := C) (bytes := bytes) (maxL := maxL) (ret := ret) ho hl hin hse hcode hy hK (by rw [hT]; exact hcB) hoB hclB hg (hsize.trans hml.symm) (argsL := As) (rest := rest) (fun sig h => hn.trans (hlen sig h)) hstack hW (by rw [hb]; exact hdg)
    (fun vm₁ hW₁ => ⟨hf.1, hf.2, hPc (T.setVm vm₁) hT hW₁⟩) with ⟨v, vm₁, ⟨U', l2, c2, s2⟩, hW₁, X', ⟨g', mk, t, L, e1, e2, hq, h1, hL, h2, h3⟩, st⟩ | ⟨q, vm₁, ⟨U', l2, c2, s2⟩, hW₁, X', ⟨g', mk, t, L, E, ce, e1, e2, hq, hce, hcv, hcl, h1, hL, h2, h3⟩, st⟩
  · dsimp only [Pt.U, Pt.locs, Pt.cells, Pt.slots] at X' e1 e2 h1 h2 h3 st
    subst h1; subst h2; subst h3
    exact Or.inl ⟨v, (T.setVm vm₁).calling g' mk (Value.ref b :: As).toArray, t, U', L, hT, X', hL, e1, e2, hq, st⟩
  · dsimp only [Pt.U, Pt.locs, Pt.cells, Pt.slots] at X' e1 e2 h1 h2 h3 st hcl
    subst h1; subst h2; subst h3
    exact Or.inr ⟨q, (T.setVm vm₁).calling g' mk (Value.ref b :: As).toArray, t, U', L, E, ce, hT, X', hL, e1, e2, hq, hce, hcv, vx_cls hW₁ hcl, st⟩
theorem vx_runS (S : CallFix p m c cc nL s args Ts own) (hM : vx_Met l y ws rm Pc Qc XC mc ms free) (cw : CallB R s args own index y bytes maxL ret ws rm mc ms n ∧ (Cond.static y).before args s = true) (hp : PreS s H Pc As)
    (hg : g.method = m) (hn : As.length = n) (hsize : g.locals.size = nL) (hstack : g.stack = As.reverse ++ rest) (hW : 2 * g.monitorRoom + (rest.map fun v => v.category).sum ≤ 8) (hdg : decode cc g.pc = .ok (.invokestatic index, 3)) (hf : cells + mc ≤ R.cells ∧ slots + ms ≤ R.slots) :
    vx_Run p l e R s m args below meth c H locs cells slots mc ms g rest (Qc As.toArray) XC free := by
  have hK : vx_Back l R p e below s args y 3 8 (PreOf R mc ms Pc) (PostOf Qc mc ms free) (vx_Post XC mc ms free) := vx_callBack cw.1 hM hp.1
  obtain ⟨⟨-, -, -, -, -, -, hcode, hini, hy, hlen, hl⟩, hstt⟩ := cw
  obtain ⟨hx, hb, hml, ho, -⟩ := S
  intro T hT X
  rcases vx_callS X hx (bytes := bytes) (maxL := maxL) (ret := ret) ho hl hstt hini hcode hy hK hg (hsize.trans hml.symm) (argsL := As) (rest := rest) (fun sig h => hn.trans (hlen sig h)) hstack hW (by rw [hb]; exact hdg)
    (fun vm₁ hW₁ => ⟨hf.1, hf.2, hp.2 (T.setVm vm₁) hT hW₁⟩) with ⟨v, vm₁, ⟨U', l2, c2, s2⟩, hW₁, X', ⟨g', mk, t, L, e1, e2, hq, h1, hL, h2, h3⟩, st⟩ | ⟨q, vm₁, ⟨U', l2, c2, s2⟩, hW₁, X', ⟨g', mk, t, L, E, ce, e1, e2, hq, hce, hcv, hcl, h1, hL, h2, h3⟩, st⟩
  · dsimp only [Pt.U, Pt.locs, Pt.cells, Pt.slots] at X' e1 e2 h1 h2 h3 st
    subst h1; subst h2; subst h3
    exact Or.inl ⟨v, (T.setVm vm₁).calling g' mk As.toArray, t, U', L, hT, X', hL, e1, e2, hq, st⟩
  · dsimp only [Pt.U, Pt.locs, Pt.cells, Pt.slots] at X' e1 e2 h1 h2 h3 st hcl
    subst h1; subst h2; subst h3
    exact Or.inr ⟨q, (T.setVm vm₁).calling g' mk As.toArray, t, U', L, E, ce, hT, X', hL, e1, e2, hq, hce, hcv, vx_cls hW₁ hcl, st⟩
end Runs
section Rows
variable {p : Program} {l : Launch} {e : Env} {R : Room} {s : State} {m : MethodId} {args : Array Value} {below : List Frame} {meth : Method} {c : Code} {H : Heap} {locs : List Loc} {cells slots : Nat} {Q : State → Prop}
variable {mc ms : Nat} {free : Addr → Prop} {A0 A1 : Nat → Prop} {H0 : Heap} {a : Array Value} {pc : Nat} {ls : Array Slot} {st0 rest : List Value}
theorem vx_keep {st₀ t T' : State} {L : List Loc} (h0 : st₀.heap = H) (e1 : T'.heap = t.heap) (hS : va_S A0 H0 H locs) (hA : ∀ q, q < H.size → A1 q → A0 q) (hf : ∀ q, free q → A0 q) (hL : ∀ q ∈ L, free q.base) (hF : va_F A1 st₀ t) :
    H.size ≤ T'.heap.size ∧ (∀ q : Nat, q < H.size → ¬ A1 q → T'.heap[q]? = H[q]?) ∧ va_S A0 H0 T'.heap (locs ++ L) := by
  obtain ⟨hz, hk⟩ := hF
  rw [h0] at hz hk
  exact ⟨by rw [e1]; exact hz, fun q h1 h2 => by rw [e1]; exact hk q h1 h2,
    ⟨Nat.le_trans hS.1 (by rw [e1]; exact hz), fun q h1 h2 => by rw [e1, hk q (Nat.lt_of_lt_of_le h1 hS.1) (fun z => h2 (hA q (Nat.lt_of_lt_of_le h1 hS.1) z))]; exact hS.2.1 q h1 h2, fun q hq => by
      rcases List.mem_append.mp hq with h | h
      · exact hS.2.2 q h
      · exact hf _ (hL q h)⟩⟩
theorem vx_calli {S SX : Type} {post : Int32 → S → Prop} {px : SX → Prop} {B : S → State → Prop} {BX : String → SX → State → Prop} {AX : Nat → Prop} (hr : vx_Run p l e R s m args below meth c H locs cells slots mc ms (F0 m pc ls st0) rest (va_Qi post B A1 a) (vx_X px BX AX) free) (hS : va_S A0 H0 H locs) (hA : ∀ q, q < H.size → A1 q → A0 q) (hf : ∀ q, free q → A0 q) (hAX : ∀ q, q < H.size → AX q → A0 q)
    (kx : ∀ (E : String) (ce : Cell) (q9 : Addr) (u : SX) (t : State) (H1 : Heap) (locs1 : List Loc), t.heap = H1 → s.vm.Alike t.vm → px u → BX E u t → H.size ≤ H1.size → (∀ q : Nat, q < H.size → ¬ AX q → H1[q]? = H[q]?) → va_S A0 H0 H1 locs1 → H1[q9]? = some ce → ce.vm = .none → s.vm.findClass E = some ce.cls → vx_W p l e R s m args below meth c H1 locs1 (cells + mc) (slots + ms) Q (F0 m pc ls rest) q9)
    (kk : ∀ (r : Int32) (u : S) (t : State) (H1 : Heap) (locs1 : List Loc), t.heap = H1 → s.vm.Alike t.vm → post r u → B u t → H.size ≤ H1.size → (∀ q : Nat, q < H.size → ¬ A1 q → H1[q]? = H[q]?) → va_S A0 H0 H1 locs1 → W p l e R s m args below meth c H1 locs1 (cells + mc) (slots + ms) Q (F0 m (pc + 3) ls (.int r :: rest))) : W p l e R s m args below meth c H locs cells slots Q (F0 m pc ls st0) := by
  intro T hT X
  rcases hr T hT X with ⟨v, st₀, t, T', L, h0, X', hL, e1, e2, ⟨⟨r, u, hv, hp, hb⟩, hF⟩, st⟩ | ⟨q, st₀, t, T', L, E, ce, h0, X', hL, e1, e2, ⟨u, hp, hb, hF⟩, hce, hcv, hcl, st⟩
  · cases hv
    obtain ⟨k1, k2, k3⟩ := vx_keep h0 e1 hS hA hf hL hF
    obtain ⟨t2, a1, b1⟩ := kk r u t T'.heap (locs ++ L) e1.symm (by rw [← e2]; exact X'.warmed.alike) hp hb k1 k2 k3 T' rfl X'
    exact ⟨t2, st t2 a1, b1⟩
  · obtain ⟨k1, k2, k3⟩ := vx_keep h0 e1 hS hAX hf hL hF
    obtain ⟨t2, a1, b1⟩ := kx E ce q u t T'.heap (locs ++ L) e1.symm (by rw [← e2]; exact X'.warmed.alike) hp hb k1 k2 k3 (by rw [e1]; exact hce) hcv hcl T' rfl X'
    exact ⟨t2, st.trans a1, b1⟩
theorem vx_calll {S SX : Type} {post : Int64 → S → Prop} {px : SX → Prop} {B : S → State → Prop} {BX : String → SX → State → Prop} {AX : Nat → Prop} (hr : vx_Run p l e R s m args below meth c H locs cells slots mc ms (F0 m pc ls st0) rest (va_Ql post B A1 a) (vx_X px BX AX) free) (hS : va_S A0 H0 H locs) (hA : ∀ q, q < H.size → A1 q → A0 q) (hf : ∀ q, free q → A0 q) (hAX : ∀ q, q < H.size → AX q → A0 q)
    (kx : ∀ (E : String) (ce : Cell) (q9 : Addr) (u : SX) (t : State) (H1 : Heap) (locs1 : List Loc), t.heap = H1 → s.vm.Alike t.vm → px u → BX E u t → H.size ≤ H1.size → (∀ q : Nat, q < H.size → ¬ AX q → H1[q]? = H[q]?) → va_S A0 H0 H1 locs1 → H1[q9]? = some ce → ce.vm = .none → s.vm.findClass E = some ce.cls → vx_W p l e R s m args below meth c H1 locs1 (cells + mc) (slots + ms) Q (F0 m pc ls rest) q9)
    (kk : ∀ (r : Int64) (u : S) (t : State) (H1 : Heap) (locs1 : List Loc), t.heap = H1 → s.vm.Alike t.vm → post r u → B u t → H.size ≤ H1.size → (∀ q : Nat, q < H.size → ¬ A1 q → H1[q]? = H[q]?) → va_S A0 H0 H1 locs1 → W p l e R s m args below meth c H1 locs1 (cells + mc) (slots + ms) Q (F0 m (pc + 3) ls (.long r :: rest))) : W p l e R s m args below meth c H locs cells slots Q (F0 m pc ls st0) := by
  intro T hT X
  rcases hr T hT X with ⟨v, st₀, t, T', L, h0, X', hL, e1, e2, ⟨⟨r, u, hv, hp, hb⟩, hF⟩, st⟩ | ⟨q, st₀, t, T', L, E, ce, h0, X', hL, e1, e2, ⟨u, hp, hb, hF⟩, hce, hcv, hcl, st⟩
  · cases hv
    obtain ⟨k1, k2, k3⟩ := vx_keep h0 e1 hS hA hf hL hF
    obtain ⟨t2, a1, b1⟩ := kk r u t T'.heap (locs ++ L) e1.symm (by rw [← e2]; exact X'.warmed.alike) hp hb k1 k2 k3 T' rfl X'
    exact ⟨t2, st t2 a1, b1⟩
  · obtain ⟨k1, k2, k3⟩ := vx_keep h0 e1 hS hAX hf hL hF
    obtain ⟨t2, a1, b1⟩ := kx E ce q u t T'.heap (locs ++ L) e1.symm (by rw [← e2]; exact X'.warmed.alike) hp hb k1 k2 k3 (by rw [e1]; exact hce) hcv hcl T' rfl X'
    exact ⟨t2, st.trans a1, b1⟩
theorem vx_callf {S SX : Type} {post : UInt32 → S → Prop} {px : SX → Prop} {B : S → State → Prop} {BX : String → SX → State → Prop} {AX : Nat → Prop} (hr : vx_Run p l e R s m args below meth c H locs cells slots mc ms (F0 m pc ls st0) rest (va_Qf post B A1 a) (vx_X px BX AX) free) (hS : va_S A0 H0 H locs) (hA : ∀ q, q < H.size → A1 q → A0 q) (hf : ∀ q, free q → A0 q) (hAX : ∀ q, q < H.size → AX q → A0 q)
    (kx : ∀ (E : String) (ce : Cell) (q9 : Addr) (u : SX) (t : State) (H1 : Heap) (locs1 : List Loc), t.heap = H1 → s.vm.Alike t.vm → px u → BX E u t → H.size ≤ H1.size → (∀ q : Nat, q < H.size → ¬ AX q → H1[q]? = H[q]?) → va_S A0 H0 H1 locs1 → H1[q9]? = some ce → ce.vm = .none → s.vm.findClass E = some ce.cls → vx_W p l e R s m args below meth c H1 locs1 (cells + mc) (slots + ms) Q (F0 m pc ls rest) q9)
    (kk : ∀ (r : UInt32) (u : S) (t : State) (H1 : Heap) (locs1 : List Loc), t.heap = H1 → s.vm.Alike t.vm → post r u → B u t → H.size ≤ H1.size → (∀ q : Nat, q < H.size → ¬ A1 q → H1[q]? = H[q]?) → va_S A0 H0 H1 locs1 → W p l e R s m args below meth c H1 locs1 (cells + mc) (slots + ms) Q (F0 m (pc + 3) ls (.float r :: rest))) : W p l e R s m args below meth c H locs cells slots Q (F0 m pc ls st0) := by
  intro T hT X
  rcases hr T hT X with ⟨v, st₀, t, T', L, h0, X', hL, e1, e2, ⟨⟨r, u, hv, hp, hb⟩, hF⟩, st⟩ | ⟨q, st₀, t, T', L, E, ce, h0, X', hL, e1, e2, ⟨u, hp, hb, hF⟩, hce, hcv, hcl, st⟩
  · cases hv
    obtain ⟨k1, k2, k3⟩ := vx_keep h0 e1 hS hA hf hL hF
    obtain ⟨t2, a1, b1⟩ := kk r u t T'.heap (locs ++ L) e1.symm (by rw [← e2]; exact X'.warmed.alike) hp hb k1 k2 k3 T' rfl X'
    exact ⟨t2, st t2 a1, b1⟩
  · obtain ⟨k1, k2, k3⟩ := vx_keep h0 e1 hS hAX hf hL hF
    obtain ⟨t2, a1, b1⟩ := kx E ce q u t T'.heap (locs ++ L) e1.symm (by rw [← e2]; exact X'.warmed.alike) hp hb k1 k2 k3 (by rw [e1]; exact hce) hcv hcl T' rfl X'
    exact ⟨t2, st.trans a1, b1⟩
theorem vx_calld {S SX : Type} {post : UInt64 → S → Prop} {px : SX → Prop} {B : S → State → Prop} {BX : String → SX → State → Prop} {AX : Nat → Prop} (hr : vx_Run p l e R s m args below meth c H locs cells slots mc ms (F0 m pc ls st0) rest (va_Qd post B A1 a) (vx_X px BX AX) free) (hS : va_S A0 H0 H locs) (hA : ∀ q, q < H.size → A1 q → A0 q) (hf : ∀ q, free q → A0 q) (hAX : ∀ q, q < H.size → AX q → A0 q)
    (kx : ∀ (E : String) (ce : Cell) (q9 : Addr) (u : SX) (t : State) (H1 : Heap) (locs1 : List Loc), t.heap = H1 → s.vm.Alike t.vm → px u → BX E u t → H.size ≤ H1.size → (∀ q : Nat, q < H.size → ¬ AX q → H1[q]? = H[q]?) → va_S A0 H0 H1 locs1 → H1[q9]? = some ce → ce.vm = .none → s.vm.findClass E = some ce.cls → vx_W p l e R s m args below meth c H1 locs1 (cells + mc) (slots + ms) Q (F0 m pc ls rest) q9)
    (kk : ∀ (r : UInt64) (u : S) (t : State) (H1 : Heap) (locs1 : List Loc), t.heap = H1 → s.vm.Alike t.vm → post r u → B u t → H.size ≤ H1.size → (∀ q : Nat, q < H.size → ¬ A1 q → H1[q]? = H[q]?) → va_S A0 H0 H1 locs1 → W p l e R s m args below meth c H1 locs1 (cells + mc) (slots + ms) Q (F0 m (pc + 3) ls (.double r :: rest))) : W p l e R s m args below meth c H locs cells slots Q (F0 m pc ls st0) := by
  intro T hT X
  rcases hr T hT X with ⟨v, st₀, t, T', L, h0, X', hL, e1, e2, ⟨⟨r, u, hv, hp, hb⟩, hF⟩, st⟩ | ⟨q, st₀, t, T', L, E, ce, h0, X', hL, e1, e2, ⟨u, hp, hb, hF⟩, hce, hcv, hcl, st⟩
  · cases hv
    obtain ⟨k1, k2, k3⟩ := vx_keep h0 e1 hS hA hf hL hF
    obtain ⟨t2, a1, b1⟩ := kk r u t T'.heap (locs ++ L) e1.symm (by rw [← e2]; exact X'.warmed.alike) hp hb k1 k2 k3 T' rfl X'
    exact ⟨t2, st t2 a1, b1⟩
  · obtain ⟨k1, k2, k3⟩ := vx_keep h0 e1 hS hAX hf hL hF
    obtain ⟨t2, a1, b1⟩ := kx E ce q u t T'.heap (locs ++ L) e1.symm (by rw [← e2]; exact X'.warmed.alike) hp hb k1 k2 k3 (by rw [e1]; exact hce) hcv hcl T' rfl X'
    exact ⟨t2, st.trans a1, b1⟩
theorem vx_callv {S SX : Type} {post : S → Prop} {px : SX → Prop} {B : S → State → Prop} {BX : String → SX → State → Prop} {AX : Nat → Prop} (hr : vx_Run p l e R s m args below meth c H locs cells slots mc ms (F0 m pc ls st0) rest (va_Qv post B A1 a) (vx_X px BX AX) free) (hS : va_S A0 H0 H locs) (hA : ∀ q, q < H.size → A1 q → A0 q) (hf : ∀ q, free q → A0 q) (hAX : ∀ q, q < H.size → AX q → A0 q)
    (kx : ∀ (E : String) (ce : Cell) (q9 : Addr) (u : SX) (t : State) (H1 : Heap) (locs1 : List Loc), t.heap = H1 → s.vm.Alike t.vm → px u → BX E u t → H.size ≤ H1.size → (∀ q : Nat, q < H.size → ¬ AX q → H1[q]? = H[q]?) → va_S A0 H0 H1 locs1 → H1[q9]? = some ce → ce.vm = .none → s.vm.findClass E = some ce.cls → vx_W p l e R s m args below meth c H1 locs1 (cells + mc) (slots + ms) Q (F0 m pc ls rest) q9)
    (kk : ∀ (u : S) (t : State) (H1 : Heap) (locs1 : List Loc), t.heap = H1 → s.vm.Alike t.vm → post u → B u t → H.size ≤ H1.size → (∀ q : Nat, q < H.size → ¬ A1 q → H1[q]? = H[q]?) → va_S A0 H0 H1 locs1 → W p l e R s m args below meth c H1 locs1 (cells + mc) (slots + ms) Q (F0 m (pc + 3) ls (rest))) : W p l e R s m args below meth c H locs cells slots Q (F0 m pc ls st0) := by
  intro T hT X
  rcases hr T hT X with ⟨v, st₀, t, T', L, h0, X', hL, e1, e2, ⟨⟨u, hv, hp, hb⟩, hF⟩, st⟩ | ⟨q, st₀, t, T', L, E, ce, h0, X', hL, e1, e2, ⟨u, hp, hb, hF⟩, hce, hcv, hcl, st⟩
  · cases hv
    obtain ⟨k1, k2, k3⟩ := vx_keep h0 e1 hS hA hf hL hF
    obtain ⟨t2, a1, b1⟩ := kk u t T'.heap (locs ++ L) e1.symm (by rw [← e2]; exact X'.warmed.alike) hp hb k1 k2 k3 T' rfl X'
    exact ⟨t2, st t2 a1, b1⟩
  · obtain ⟨k1, k2, k3⟩ := vx_keep h0 e1 hS hAX hf hL hF
    obtain ⟨t2, a1, b1⟩ := kx E ce q u t T'.heap (locs ++ L) e1.symm (by rw [← e2]; exact X'.warmed.alike) hp hb k1 k2 k3 (by rw [e1]; exact hce) hcv hcl T' rfl X'
    exact ⟨t2, st.trans a1, b1⟩
/-- caught by the row x of this method's table; the rows ahead don't take it -/
theorem vx_catch {own name : String} {E : String} {ce : Cell} {q : Addr} (hown : s.vm.findClass own = some m.cls) (pre : List ExceptionTableEntry) (x : ExceptionTableEntry) (suf : List ExceptionTableEntry) (hsplit : c.exceptionTable.toList = pre ++ x :: suf)
    (hpass : ∀ z ∈ pre, covers z pc = false ∨ (z.catchType ≠ 0 ∧ ∃ nm : String, (Cond.classLink own z.catchType nm).before args s = true ∧ va_Nc E nm s)) (hx : covers x pc = true) (h0 : x.catchType ≠ 0)
    (hlink : (Cond.classLink own x.catchType name).before args s = true) (hcast : (Cond.castable E name).before args s = true) (hcell : H[q]? = some ce) (hv : ce.vm = .none) (hcl : s.vm.findClass E = some ce.cls)
    (kk : W p l e R s m args below meth c H locs cells slots Q (F0 m x.handlerPc ls [.ref q])) : vx_W p l e R s m args below meth c H locs cells slots Q (F0 m pc ls rest) q := by
  intro T hT X
  have hpl : e.platform.magicAccessors = ({} : Platform).magicAccessors := by rw [X.admits.platform]
  obtain ⟨c3, c4, hc3, hc4, hasg⟩ := Cond.castable_spec hcast
  cases Option.some.inj (hc3.symm.trans hcl)
  obtain ⟨c5, hc5, hcl5⟩ := Cond.classLink_spec hown hlink e.platform hpl
  cases Option.some.inj (hc4.symm.trans hc5)
  obtain ⟨vm', X', st⟩ := X.thenCaughtThrough q (g := F0 m pc ls rest) rfl (Steps.refl _) (by rw [hT]; exact hcell) (by rw [hv]; rfl) (by obtain ⟨k9, h9, -⟩ := Vm.findClass_spec hcl; exact ⟨k9, h9⟩) pre x suf hsplit
    (fun z hz => by
      rcases hpass z hz with h | ⟨hz0, nm, hl1, hn1⟩
      · exact Or.inl h
      · obtain ⟨c6, hc6, hcl6⟩ := Cond.classLink_spec hown hl1 e.platform hpl
        obtain ⟨a8, b8, h1, h2, h3⟩ := hn1
        cases Option.some.inj (h1.symm.trans hcl)
        cases Option.some.inj (h2.symm.trans hc6)
        exact Or.inr ⟨hz0, _, hcl6, h3⟩) hx (Or.inr ⟨h0, c4, hcl5, hasg⟩)
  obtain ⟨t, a1, b1⟩ := kk (T.setVm vm') hT X'
  exact ⟨t, st.trans a1, b1⟩
end Rows
section Ends
variable {p : Program} {l : Launch} {e : Env} {R : Room} {s : State} {m : MethodId} {args : Array Value} {below : List Frame} {meth : Method} {c : Code} {H : Heap} {locs : List Loc} {cells slots : Nat} {Q : State → Prop}
variable {mc ms : Nat} {free : Addr → Prop} {A0 A1 : Nat → Prop} {H0 : Heap} {a : Array Value} {ls : Array Slot} {st0 rest : List Value}
variable {Qc : Array Value → State → Outcome → State → Prop} {XC : String → State → State → Prop}
/-- what a body that may throw owes at its end -/
def vx_MQ (below : List Frame) (Qc : Array Value → State → Outcome → State → Prop) (XC : String → State → State → Prop) (a : Array Value) (s : State) (mc ms : Nat) (free : Addr → Prop) : State → Prop := fun t =>
  ∃ o, t.status = .running ∧ Ended t below o ∧ vx_Q Qc XC mc ms free a s o t
theorem vx_ret {g : JFrame} {mc ms : Nat} (k : W p l e R s m args below meth c H locs cells slots (MQ below Qc args s mc ms free) g) : W p l e R s m args below meth c H locs cells slots (vx_MQ below Qc XC args s mc ms free) g := by
  intro T hT X
  obtain ⟨t, a1, o, b1, b2, b3, b4⟩ := k T hT X
  exact ⟨t, a1, o, b1, b2, Or.inl ⟨b3, b4⟩⟩
/-- not caught here: it goes on to the caller -/
theorem vx_widen {g : JFrame} {q : Addr} {k n : Nat} (h1 : cells ≤ k) (h2 : slots ≤ n) (kk : vx_W p l e R s m args below meth c H locs k n Q g q) : vx_W p l e R s m args below meth c H locs cells slots Q g q := fun T hT X => kk T hT (stand_widen X h1 h2)
theorem vx_out {pc : Nat} {E : String} {ce : Cell} {q : Addr} {mc ms : Nat} (hout : ∀ x ∈ c.exceptionTable.toList, covers x pc = false) (hlocks : meth.locks = false) (hcell : H[q]? = some ce) (hv : ce.vm = .none) (hcl : s.vm.findClass E = some ce.cls)
    (hx : ∀ t : State, t.heap = H → s.vm.Alike t.vm → XC E s t) (hf : ∀ z ∈ locs, free z.base) (hc : cells ≤ mc) (hs : slots ≤ ms) :
    vx_W p l e R s m args below meth c H locs cells slots (vx_MQ below Qc XC args s mc ms free) (F0 m pc ls rest) q := by
  intro T hT X
  obtain ⟨st1, hrun, hend, hW, hsm⟩ := X.leaveThrown q (g := F0 m pc ls rest) rfl rfl rfl hout hlocks
  have hcell9 : (T.setFrames (.throwing q :: below)).heap[q]? = some ce := by
    show T.heap[q]? = some ce
    rw [hT]; exact hcell
  exact ⟨_, st1, .threw q, hrun, hend, Or.inr ⟨q, rfl, E, ce, locs, hx _ hT hW.alike, hcell9, hv, hcl, hW, hsm.mono hc hs, hf⟩⟩
theorem vx_frame {U : State} {k n : Nat} (h : s.sameButNew ({ U with vm := s.vm } : State) locs k n) : s.heap.size ≤ U.heap.size ∧ ∀ q : Nat, q < s.heap.size → (∀ z ∈ locs, z.base ≠ q) → U.heap[q]? = s.heap[q]? := by
  obtain ⟨-, h2, -, -, -, h6⟩ := h
  refine ⟨h2, fun q hq hz => ?_⟩
  obtain ⟨c9, e1, e2, e3, e4⟩ := h6 q _ (Array.getElem?_eq_getElem hq)
  have hs : c9.slots = (s.heap[q]).slots := Array.ext_getElem? fun i => e4 i fun hm => hz _ hm rfl
  have h9 : c9 = s.heap[q] := by
    rw [hs] at e2
    exact e2
  have e5 : U.heap[q]? = some c9 := e1
  rw [e5, h9, Array.getElem?_eq_getElem hq]
/-- the words of a throw but the four that speak of the heap -/
def vx_no (w : Cond) : Bool := decide (w ≠ .isRef (.static Bundle.tN "UNASSIGNED_STACK" Bundle.steD)) && decide (w ≠ .isRef (.static Bundle.tN "SUPPRESSED_SENTINEL" Bundle.listD)) && decide (w ≠ .laysStatic Bundle.tN "UNASSIGNED_STACK" Bundle.steD) && decide (w ≠ .laysStatic Bundle.tN "SUPPRESSED_SENTINEL" Bundle.listD)
def vx_at0 (own : String) (ic : Nat) (X : String) (names : List String) : List Cond := (Bundle.ownAtoms0 own ic X names).filter vx_no
def vx_atS (own : String) (ic : Nat) (X : String) (names : List String) : List Cond := (Bundle.ownAtoms own ic X names).filter vx_no
/-- a word that the tables alone decide, or a good one -/
def vx_ot (w : Cond) : Bool := w.onTables || goodWord w
theorem vx_ot_at {args a' : Array Value} {s U : State} {w : Cond} (hW : s.WarmedH U.vm) (hvm : s.vm = U.vm) (hg : vx_ot w = true) (h : w.before args s = true) : w.before a' U = true := by
  simp only [vx_ot, Bool.or_eq_true] at hg
  rcases hg with hg | hg
  · exact va_tabs hg hvm h
  · exact word_at hW (good_of_word hg) h
/-- a list's words: the good ones out of the method's own list, the others by premises of their own -/
theorem vx_hat {args : Array Value} {s : State} {L B : List Cond} (h1 : ∀ w ∈ L.filter goodWord, w.before args s = true) (h2 : ∀ w ∈ L.filter (fun w => !goodWord w), w ∈ B) (h3 : ∀ w ∈ B, w.before args s = true) : ∀ w ∈ L, w.before args s = true := by
  intro w hw
  by_cases g : goodWord w = true
  · exact h1 w (List.mem_filter.mpr ⟨hw, g⟩)
  · refine h3 w (h2 w (List.mem_filter.mpr ⟨hw, ?_⟩))
    show (!goodWord w) = true
    cases hgw : goodWord w
    · rfl
    · exact absurd hgw g
theorem vx_c {args : Array Value} {s : State} {w : Cond} {B : List Cond} (h : w.before args s = true) (t : ∀ w ∈ B, w.before args s = true) : ∀ w' ∈ w :: B, w'.before args s = true := fun w' h' => (List.mem_cons.mp h').elim (fun e => by rw [e]; exact h) (t w')
theorem vx_n {args : Array Value} {s : State} : ∀ w ∈ ([] : List Cond), w.before args s = true := fun _ h => nomatch h
theorem vx_own {args : Array Value} {s : State} {L : List Cond} (h1 : ∀ w ∈ L.filter vx_no, w.before args s = true)
    (hU : (Cond.isRef (.static Bundle.tN "UNASSIGNED_STACK" Bundle.steD)).before args s = true) (hN : (Cond.isRef (.static Bundle.tN "SUPPRESSED_SENTINEL" Bundle.listD)).before args s = true)
    (lU : (Cond.laysStatic Bundle.tN "UNASSIGNED_STACK" Bundle.steD).before args s = true) (lN : (Cond.laysStatic Bundle.tN "SUPPRESSED_SENTINEL" Bundle.listD).before args s = true) : ∀ w ∈ L, w.before args s = true := by
  intro w hw
  by_cases e1 : w = .isRef (.static Bundle.tN "UNASSIGNED_STACK" Bundle.steD)
  · rw [e1]; exact hU
  · by_cases e2 : w = .isRef (.static Bundle.tN "SUPPRESSED_SENTINEL" Bundle.listD)
    · rw [e2]; exact hN
    · by_cases e3 : w = .laysStatic Bundle.tN "UNASSIGNED_STACK" Bundle.steD
      · rw [e3]; exact lU
      · by_cases e4 : w = .laysStatic Bundle.tN "SUPPRESSED_SENTINEL" Bundle.listD
        · rw [e4]; exact lN
        · exact h1 w (List.mem_filter.mpr ⟨hw, by unfold vx_no; rw [decide_eq_true e1, decide_eq_true e2, decide_eq_true e3, decide_eq_true e4]; rfl⟩)
/-- where a static field lies, its class's statics cell in H -/
def vx_L (C n d : String) (A : Nat → Prop) (U : State) (H : Heap) : Prop := ∃ (c : ClassId) (k : Class) (i : Nat) (f : Field) (a : Nat) (cell : Cell), U.vm.findClass C = some c ∧ U.fieldFound? C n d = some (c, k, i, f) ∧ f.isStatic = true ∧ k.statics = some a ∧ H[a]? = some cell ∧ cell.vm.isStatics = true ∧ cell.cls = c ∧ f.slot < cell.slots.size ∧ k.staticTypes[f.slot]? = some f.type ∧ ¬ A a
theorem vx_L.moved {C n d : String} {A : Nat → Prop} {u U : State} {H : Heap} (hvm : u.vm.Alike U.vm) (h : vx_L C n d A u H) : vx_L C n d A U H := by
  obtain ⟨c, k, i, f, a, cell, h1, h2, h3, h4, h5, h6, h7, h8, h9, h10⟩ := h
  obtain ⟨k', hi', he⟩ := State.fieldFound?_setVm hvm h2
  exact ⟨c, k', i, f, a, cell, by rw [hvm.findClass]; exact h1, hi', h3, by rw [he]; exact h4, h5, h6, h7, h8, by rw [he]; exact h9, h10⟩
theorem vx_L.kept {C n d : String} {A : Nat → Prop} {U : State} {H H1 : Heap} (h : vx_L C n d A U H) (hq : ∀ a : Nat, a < H.size → ¬ A a → H1[a]? = H[a]?) : vx_L C n d A U H1 := by
  obtain ⟨c, k, i, f, a, cell, h1, h2, h3, h4, h5, h6, h7, h8, h9, h10⟩ := h
  exact ⟨c, k, i, f, a, cell, h1, h2, h3, h4, by rw [hq a (Array.getElem?_eq_some_iff.mp h5).1 h10]; exact h5, h6, h7, h8, h9, h10⟩
theorem vx_L.narrow {C n d : String} {A B : Nat → Prop} {U : State} {H : Heap} (h : vx_L C n d A U H) (hAB : ∀ q, B q → A q) : vx_L C n d B U H := by
  obtain ⟨c, k, i, f, a, cell, h1, h2, h3, h4, h5, h6, h7, h8, h9, h10⟩ := h
  exact ⟨c, k, i, f, a, cell, h1, h2, h3, h4, h5, h6, h7, h8, h9, fun z => h10 (hAB _ z)⟩
theorem vx_L.word {C n d : String} {A : Nat → Prop} {s : State} {args : Array Value} (h : vx_L C n d A s s.heap) : (Cond.laysStatic C n d).before args s = true := by
  obtain ⟨c, k, i, f, a, cell, h1, h2, h3, h4, h5, h6, h7, h8, h9, -⟩ := h
  show (Cond.laysStatic C n d).holds args s none s [] = true
  exact Cond.laysStatic_of h1 h2 h3 h4 h5 h6 h7 h8 h9
/-- .. and what it holds: null or some reference -/
def vx_Zq (C n d : String) (A : Nat → Prop) (U : State) (H : Heap) : Prop := va_Zq C n d A U H ∧ vx_L C n d A U H
theorem vx_Zq.moved {C n d : String} {A : Nat → Prop} {u U : State} {H : Heap} (hvm : u.vm.Alike U.vm) (h : vx_Zq C n d A u H) : vx_Zq C n d A U H := ⟨va_Zq.moved hvm h.1, vx_L.moved hvm h.2⟩
theorem vx_Zq.kept {C n d : String} {A : Nat → Prop} {U : State} {H H1 : Heap} (h : vx_Zq C n d A U H) (hq : ∀ a : Nat, a < H.size → ¬ A a → H1[a]? = H[a]?) : vx_Zq C n d A U H1 := ⟨va_Zq.kept h.1 hq, vx_L.kept h.2 hq⟩
theorem vx_Zq.narrow {C n d : String} {A B : Nat → Prop} {U : State} {H : Heap} (h : vx_Zq C n d A U H) (hAB : ∀ q, B q → A q) : vx_Zq C n d B U H := ⟨va_Zq.narrow h.1 hAB, vx_L.narrow h.2 hAB⟩
theorem vx_Zqof {args : Array Value} {s : State} {C n d : String} {A : Nat → Prop} (hl : (Cond.laysStatic C n d).before args s = true) (hini : (Cond.initialized C).before args s = true) (h : (Cond.isRef (.static C n d)).before args s = true) (hA : ∀ a : Nat, a < s.heap.size → ¬ A a) : vx_Zq C n d A s s.heap := by
  refine ⟨va_Zqof hl hini h hA, ?_⟩
  obtain ⟨c, k, i, f, a, cell, h1, h2, h3, h4, h5, h6, h7, h8, h9⟩ := Cond.laysStatic_spec hl
  exact ⟨c, k, i, f, a, cell, h1, h2, h3, h4, h5, h6, h7, h8, h9, hA a (Array.getElem?_eq_some_iff.mp h5).1⟩
theorem vx_isRef {C n d : String} {v : Value} {A : Nat → Prop} {s : State} {args : Array Value} (h : va_Z C n d v A s s.heap) (hv : v.isRef = true) : (Cond.isRef (.static C n d)).before args s = true := by
  obtain ⟨cf, kf, fi, f, a, cell, h1, h2, h3, h4, h5, h6, h7, -⟩ := h
  have he : (Term.static C n d).eval args s none [] s = some v := by
    simp [Term.eval, State.fieldNamed?, h1, h2, h4, h5, h6, h7]
  simp only [Cond.before, Cond.holds, Cond.value, he]
  cases v <;> simp_all [Value.isRef]
theorem vx_isRefq {C n d : String} {A : Nat → Prop} {s : State} {args : Array Value} (h : va_Zq C n d A s s.heap) : (Cond.isRef (.static C n d)).before args s = true := by
  rcases h with h | ⟨t, h⟩
  · exact vx_isRef h rfl
  · exact vx_isRef h rfl
/-- the same frame, seen from here: as if the method were called anew in this heap -/
theorem vx_rebase {T : State} (X : Stand p l e R s m args below meth c T locs cells slots) {R' : Room} (hf : R'.frames ≤ R.frames) (hl : R'.locals ≤ R.locals) (hc : cells + R'.cells ≤ R.cells) (hs : slots + R'.slots ≤ R.slots) :
    Stand p l e R' ((T.setVm s.vm).setFrames (.invoking m args :: below)) m args below meth c T [] 0 0 := by
  have htop : (T.setVm s.vm).topJava?.isSome := X.here.top
  have hF : ((T.setVm s.vm).setFrames (.invoking m args :: below)).frames = .invoking m args :: below := State.frames_setFrames _ (State.cur_lt_of_top htop)
  obtain ⟨g₀, hg0⟩ := Option.isSome_iff_exists.mp htop
  obtain ⟨r, hr⟩ := State.topJava?_eq_some.mp hg0
  have hl9 : e.platform.stackLimits (T.setVm s.vm).me = e.platform.stackLimits s.me := X.limits
  have hb9 : (T.setVm s.vm).me.stackBytes = s.me.stackBytes := X.bytes
  refine ⟨X.admits, X.cas, X.clock, hF, ?_, X.hears, X.method, X.code, X.here, X.tail, X.warmed, ?_, ?_, ?_⟩
  · have h := X.room
    have hU : ((T.setVm s.vm).setFrames (.invoking m args :: below)).localsInUse = s.localsInUse := by
      rw [State.localsInUse_invoking hF (meth := meth) (c := c) X.method X.code, State.localsInUse_invoking X.frames X.method X.code]
    simp only [State.hasRoom, Bool.and_eq_true, decide_eq_true_eq] at h ⊢
    obtain ⟨⟨⟨⟨h1, h2, h3, h4, h5, h6⟩, h7⟩, h8⟩, h9⟩ := h
    rw [X.frames, List.length_cons] at h2 h3
    have q1 := X.heapSize
    have q2 := X.used
    simp only [hF, hU, List.length_cons, State.stackLimits_setFrames, State.stackBytes_setFrames, hl9, hb9]
    refine ⟨⟨⟨⟨by omega, by omega, by omega, by omega, by omega, h6⟩, ?_⟩, ?_⟩, X.book⟩
    · show T.heap.size + R'.cells ≤ e.platform.maxCells
      omega
    · show T.slotsUsed + R'.slots ≤ e.platform.maxSlots
      omega
  · rw [State.stackLimits_setFrames]; rfl
  · rw [State.stackBytes_setFrames]; rfl
  · refine ⟨?_, Nat.le_refl _, Nat.le_refl _, ?_, ?_, fun a c9 h9 => ⟨c9, h9, rfl, rfl, fun _ _ => rfl⟩⟩
    · obtain ⟨t, ht, -⟩ := State.frames_cons hr
      show T.setVm s.vm = { ((T.setVm s.vm).setFrames (.invoking m args :: below)).setFrames (T.setVm s.vm).frames with heap := T.heap, slotsUsed := T.slotsUsed }
      rw [State.setFrames_setFrames, State.setFrames_self ht]
      rfl
    · show T.slotsUsed = T.slotsUsed + ((T.heap.toList.drop T.heap.size).map (·.slots.size)).sum
      rw [List.drop_eq_nil_of_le (Nat.le_of_eq Array.length_toList)]
      rfl
    · show ((T.heap.toList.drop T.heap.size).map (·.slots.size)).sum ≤ 0
      rw [List.drop_eq_nil_of_le (Nat.le_of_eq Array.length_toList)]
      exact Nat.le_refl _
/-- 'throw new E()': new; dup; invokespecial; athrow -/
theorem vx_throw0 {cc : ByteArray} {pc : Nat} (hexec : p.tables.exec = Jvm.exec) (hb : c.code = cc) (hl : l.stackTraces = false) {own cls : String} {names : List String} {ik ic mc ms : Nat} {A : Nat → Prop}
    (hown : s.vm.findClass own = some m.cls) (hcls : Bundle.fit cls = true) (hnames : ∀ n ∈ names, Bundle.fit n = true)
    (hk : (Cond.classLink own ik cls).before args s = true) (hini : (Cond.initialized cls).before args s = true) (hat : ∀ w ∈ vx_at0 own ic cls names, w.before args s = true)
    (hgood : ∀ w ∈ Cond.classLink own ik cls :: Cond.initialized cls :: vx_at0 own ic cls names, vx_ot w = true)
    (hU : vx_Zq Bundle.tN "UNASSIGNED_STACK" Bundle.steD A s s.heap) (hN : vx_Zq Bundle.tN "SUPPRESSED_SENTINEL" Bundle.listD A s s.heap) (hS : va_S A s.heap H locs) (hsize : ls.size = c.maxLocals)
    (d0 : decode cc pc = .ok (.new ik, 3)) (d3 : decode cc (pc + 3) = .ok (.dup, 1)) (d4 : decode cc (pc + 4) = .ok (.invokespecial ic, 3)) (d7 : decode cc (pc + 7) = .ok (.athrow, 1))
    (hout : ∀ x ∈ c.exceptionTable.toList, covers x (pc + 7) = false)
    (hRframes : names.length + 3 < R.frames) (hRlocals : (rest.map fun v => v.category).sum + (13 * (names.length + 1) + 42) ≤ R.locals) (hRcells : cells + 1 ≤ R.cells) (hRslots : slots + 6 ≤ R.slots) (hlocks : meth.locks = false)
    (hx : ∀ t : State, s.vm.Alike t.vm → H.size ≤ t.heap.size → (∀ q : Nat, q < H.size → t.heap[q]? = H[q]?) → XC cls s t)
    (hf : ∀ z ∈ locs, free z.base) (hc : cells + 1 ≤ mc) (hs : slots + 6 ≤ ms) :
    W p l e R s m args below meth c H locs cells slots (vx_MQ below Qc XC args s mc ms free) (F0 m pc ls rest) := by
  intro T hT X
  have htr : e.platform.stackTraces = false := (show e.platform.stackTraces = l.stackTraces by rw [X.admits.platform]).trans hl
  have Y := vx_rebase X (R' := { frames := R.frames, locals := R.locals, cells := 1, slots := 6 }) (Nat.le_refl _) (Nat.le_refl _) hRcells hRslots
  obtain ⟨s', hA⟩ : ∃ z, z = (T.setVm s.vm).setFrames (.invoking m args :: below) := ⟨_, rfl⟩
  rw [← hA] at Y
  have hvm : s'.vm = s.vm := by rw [hA]; rfl
  have hhp : s'.heap = H := by rw [hA]; exact hT
  have hW0 : s.WarmedH s'.vm := by rw [hvm]; exact State.WarmedH.refl s
  have hat' : ∀ w ∈ vx_at0 own ic cls names, w.before args s' = true := fun w hw => vx_ot_at hW0 hvm.symm (hgood w (List.mem_cons_of_mem _ (List.mem_cons_of_mem _ hw))) (hat w hw)
  have hk' : (Cond.classLink own ik cls).before args s' = true := vx_ot_at hW0 hvm.symm (hgood _ List.mem_cons_self) hk
  have hini' : (Cond.initialized cls).before args s' = true := vx_ot_at hW0 hvm.symm (hgood _ (List.mem_cons_of_mem _ List.mem_cons_self)) hini
  have hU' : vx_Zq Bundle.tN "UNASSIGNED_STACK" Bundle.steD A s' s'.heap := by rw [hhp]; exact vx_Zq.moved hW0.alike (hU.kept hS.2.1)
  have hN' : vx_Zq Bundle.tN "SUPPRESSED_SENTINEL" Bundle.listD A s' s'.heap := by rw [hhp]; exact vx_Zq.moved hW0.alike (hN.kept hS.2.1)
  have h : ∀ w ∈ Bundle.ownAtoms0 own ic cls names, w.before args s' = true := vx_own hat' (vx_isRefq hU'.1) (vx_isRefq hN'.1) hU'.2.word hN'.2.word
  have hown' : s'.vm.findClass own = some m.cls := by rw [hvm]; exact hown
  have hins : (Cond.instantiable cls 6).before args s' = true := h _ (by simp [Bundle.ownAtoms0])
  obtain ⟨vm₁, cX, kX, hfX, hkX, -, -, X₁, st1⟩ := Y.newCold hexec (own := own) (C := cls) (index := ik) (n := 6) hown' hk' hins hini'
    (g := F0 m pc ls rest) rfl (by rw [hb]; exact d0) (Nat.le_refl _) (Nat.le_refl _)
  generalize hT1 : (T.setVm vm₁).pushCell { cls := cX, slots := kX.instanceTypes.map defaultValue, vm := .none } = T1 at X₁ st1
  have hcat : (Value.ref T.heap.size).category = 1 := rfl
  have hcellA : T1.heap[T.heap.size]? = some (freshCell cX kX) := by rw [← hT1]; exact State.heap_pushCell_size _ _
  have d3' : decode c.code (pc + 3) = .ok (.dup, 1) := by rw [hb]; exact d3
  obtain ⟨U, hsteps, hrun, hend, hW, hsame, ce, hce, hO⟩ := X₁.ctorThrow0 hexec htr (own := own) (cls := cls) (names := names) (ic := ic) hown' hcls hnames h (fun x hx => nomatch hx) hfX hkX hcellA (by rw [hhp, hT]; exact Nat.le_refl _)
    (g := { method := m, pc := pc + 4, locals := ls, stack := .ref T.heap.size :: .ref T.heap.size :: rest, locked := none }) rfl hsize rfl rfl (rest := rest) rfl
    (by rw [hb]; exact d4) (by rw [hb]; exact d7) hout hRframes (by simp only [List.map_cons, List.sum_cons, hcat]; omega) hlocks
  obtain ⟨f1, f2⟩ := vx_frame hsame
  rw [hhp] at f1 f2
  have hWs : s.WarmedH U.vm := State.WarmedH.trans hW0 hW
  have hcl : s.vm.findClass cls = some ce.cls := by
    have h9 := hO.cls
    rw [hvm] at h9
    exact h9
  have hall : s.sameButNew ({ U with vm := s.vm } : State) locs mc ms := by
    subst hA
    obtain ⟨e1, e2⟩ := hsame
    rw [State.setFrames_setFrames] at e1
    have h2 : (T.setVm s.vm).sameButNew ({ U with vm := s.vm } : State) [] (0 + 1) (0 + 6) := ⟨e1, e2⟩
    have h3 := X.same.trans h2
    rw [List.append_nil] at h3
    exact h3.mono hc hs
  refine ⟨U, ?_, .threw T.heap.size, hrun, hend, Or.inr ⟨T.heap.size, rfl, cls, ce, locs, hx U hWs.alike f1 (fun q hq => f2 q hq (fun z hz => nomatch hz)), hce, hO.vm, hcl, hWs, hall, hf⟩⟩
  refine st1 _ ?_
  show Steps p.tables e below (T1.setTop { method := m, pc := pc + 3, locals := ls, stack := .ref T.heap.size :: rest, locked := none }) _
  jvm_step X₁.here [X₁.here.top, hexec, d3', Value.category]
  exact hsteps
/-- 'throw new E("text")': new; dup; ldc; invokespecial; athrow -/
theorem vx_throwS {cc : ByteArray} {pc : Nat} (hexec : p.tables.exec = Jvm.exec) (hb : c.code = cc) (hl : l.stackTraces = false) {own cls text : String} {names : List String} {ik is ic mc ms sa : Nat} {A : Nat → Prop}
    (hown : s.vm.findClass own = some m.cls) (hcls : Bundle.fit cls = true) (hnames : ∀ n ∈ names, Bundle.fit n = true)
    (hk : (Cond.classLink own ik cls).before args s = true) (hini : (Cond.initialized cls).before args s = true) (hstr : vk_R own is text sa s) (hat : ∀ w ∈ vx_atS own ic cls names, w.before args s = true)
    (hgood : ∀ w ∈ Cond.classLink own ik cls :: Cond.initialized cls :: vx_atS own ic cls names, vx_ot w = true)
    (hU : vx_Zq Bundle.tN "UNASSIGNED_STACK" Bundle.steD A s s.heap) (hN : vx_Zq Bundle.tN "SUPPRESSED_SENTINEL" Bundle.listD A s s.heap) (hS : va_S A s.heap H locs) (hsize : ls.size = c.maxLocals)
    (d0 : decode cc pc = .ok (.new ik, 3)) (d3 : decode cc (pc + 3) = .ok (.dup, 1)) (d4 : decode cc (pc + 4) = .ok (.ldc is, 2)) (d6 : decode cc (pc + 6) = .ok (.invokespecial ic, 3)) (d9 : decode cc (pc + 9) = .ok (.athrow, 1))
    (hout : ∀ x ∈ c.exceptionTable.toList, covers x (pc + 9) = false)
    (hRframes : names.length + 3 < R.frames) (hRlocals : (rest.map fun v => v.category).sum + (13 * (names.length + 1) + 43) ≤ R.locals) (hRcells : cells + 1 ≤ R.cells) (hRslots : slots + 6 ≤ R.slots) (hlocks : meth.locks = false)
    (hx : ∀ t : State, s.vm.Alike t.vm → H.size ≤ t.heap.size → (∀ q : Nat, q < H.size → t.heap[q]? = H[q]?) → XC cls s t)
    (hf : ∀ z ∈ locs, free z.base) (hc : cells + 1 ≤ mc) (hs : slots + 6 ≤ ms) :
    W p l e R s m args below meth c H locs cells slots (vx_MQ below Qc XC args s mc ms free) (F0 m pc ls rest) := by
  intro T hT X
  have htr : e.platform.stackTraces = false := (show e.platform.stackTraces = l.stackTraces by rw [X.admits.platform]).trans hl
  have Y := vx_rebase X (R' := { frames := R.frames, locals := R.locals, cells := 1, slots := 6 }) (Nat.le_refl _) (Nat.le_refl _) hRcells hRslots
  obtain ⟨s', hA⟩ : ∃ z, z = (T.setVm s.vm).setFrames (.invoking m args :: below) := ⟨_, rfl⟩
  rw [← hA] at Y
  have hvm : s'.vm = s.vm := by rw [hA]; rfl
  have hhp : s'.heap = H := by rw [hA]; exact hT
  have hW0 : s.WarmedH s'.vm := by rw [hvm]; exact State.WarmedH.refl s
  have hat' : ∀ w ∈ vx_atS own ic cls names, w.before args s' = true := fun w hw => vx_ot_at hW0 hvm.symm (hgood w (List.mem_cons_of_mem _ (List.mem_cons_of_mem _ hw))) (hat w hw)
  have hk' : (Cond.classLink own ik cls).before args s' = true := vx_ot_at hW0 hvm.symm (hgood _ List.mem_cons_self) hk
  have hini' : (Cond.initialized cls).before args s' = true := vx_ot_at hW0 hvm.symm (hgood _ (List.mem_cons_of_mem _ List.mem_cons_self)) hini
  have hU' : vx_Zq Bundle.tN "UNASSIGNED_STACK" Bundle.steD A s' s'.heap := by rw [hhp]; exact vx_Zq.moved hW0.alike (hU.kept hS.2.1)
  have hN' : vx_Zq Bundle.tN "SUPPRESSED_SENTINEL" Bundle.listD A s' s'.heap := by rw [hhp]; exact vx_Zq.moved hW0.alike (hN.kept hS.2.1)
  have h : ∀ w ∈ Bundle.ownAtoms own ic cls names, w.before args s' = true := vx_own hat' (vx_isRefq hU'.1) (vx_isRefq hN'.1) hU'.2.word hN'.2.word
  have hown' : s'.vm.findClass own = some m.cls := by rw [hvm]; exact hown
  have hins : (Cond.instantiable cls 6).before args s' = true := h _ (by simp [Bundle.ownAtoms])
  obtain ⟨vm₁, cX, kX, hfX, hkX, -, -, X₁, st1⟩ := Y.newCold hexec (own := own) (C := cls) (index := ik) (n := 6) hown' hk' hins hini'
    (g := F0 m pc ls rest) rfl (by rw [hb]; exact d0) (Nat.le_refl _) (Nat.le_refl _)
  generalize hT1 : (T.setVm vm₁).pushCell { cls := cX, slots := kX.instanceTypes.map defaultValue, vm := .none } = T1 at X₁ st1
  have hcat : (Value.ref T.heap.size).category = 1 := rfl
  have hcellA : T1.heap[T.heap.size]? = some (freshCell cX kX) := by rw [← hT1]; exact State.heap_pushCell_size _ _
  have d3' : decode c.code (pc + 3) = .ok (.dup, 1) := by rw [hb]; exact d3
  have d4' : decode c.code (pc + 4) = .ok (.ldc is, 2) := by rw [hb]; exact d4
  have hstr' : vk_R own is text sa s' := vk_R.warm hW0 hstr
  obtain ⟨U, hsteps, hrun, hend, hW, hsame, ce, hce, hO⟩ := X₁.ctorThrowS hexec htr (own := own) (cls := cls) (names := names) (ic := ic) hown' hcls hnames h (fun x hx => nomatch hx) hfX hkX hcellA (by rw [hhp, hT]; exact Nat.le_refl _) (msg := .ref sa) rfl
    (g := { method := m, pc := pc + 6, locals := ls, stack := .ref sa :: .ref T.heap.size :: .ref T.heap.size :: rest, locked := none }) rfl hsize rfl rfl (rest := rest) rfl
    (by rw [hb]; exact d6) (by rw [hb]; exact d9) hout hRframes (by simp only [List.map_cons, List.sum_cons, hcat]; omega) hlocks
  obtain ⟨f1, f2⟩ := vx_frame hsame
  rw [hhp] at f1 f2
  have hWs : s.WarmedH U.vm := State.WarmedH.trans hW0 hW
  have hcl : s.vm.findClass cls = some ce.cls := by
    have h9 := hO.cls
    rw [hvm] at h9
    exact h9
  have hall : s.sameButNew ({ U with vm := s.vm } : State) locs mc ms := by
    subst hA
    obtain ⟨e1, e2⟩ := hsame
    rw [State.setFrames_setFrames] at e1
    have h2 : (T.setVm s.vm).sameButNew ({ U with vm := s.vm } : State) [] (0 + 1) (0 + 6) := ⟨e1, e2⟩
    have h3 := X.same.trans h2
    rw [List.append_nil] at h3
    exact h3.mono hc hs
  refine ⟨U, ?_, .threw T.heap.size, hrun, hend, Or.inr ⟨T.heap.size, rfl, cls, ce, locs, hx U hWs.alike f1 (fun q hq => f2 q hq (fun z hz => nomatch hz)), hce, hO.vm, hcl, hWs, hall, hf⟩⟩
  refine st1 _ ?_
  show Steps p.tables e below (T1.setTop { method := m, pc := pc + 3, locals := ls, stack := .ref T.heap.size :: rest, locked := none }) _
  jvm_step X₁.here [X₁.here.top, hexec, d3', Value.category]
  exact X₁.ldcString hexec (own := own) (text := text) (index := is) (a := sa) hown' hstr'.1 hstr'.2
    (g := { method := m, pc := pc + 4, locals := ls, stack := .ref T.heap.size :: .ref T.heap.size :: rest, locked := none }) rfl d4' _ hsteps
/-- 'throw new E("text")', the text by a wide index -/
theorem vx_throwSW {cc : ByteArray} {pc : Nat} (hexec : p.tables.exec = Jvm.exec) (hb : c.code = cc) (hl : l.stackTraces = false) {own cls text : String} {names : List String} {ik is ic mc ms sa : Nat} {A : Nat → Prop}
    (hown : s.vm.findClass own = some m.cls) (hcls : Bundle.fit cls = true) (hnames : ∀ n ∈ names, Bundle.fit n = true)
    (hk : (Cond.classLink own ik cls).before args s = true) (hini : (Cond.initialized cls).before args s = true) (hstr : vk_R own is text sa s) (hat : ∀ w ∈ vx_atS own ic cls names, w.before args s = true)
    (hgood : ∀ w ∈ Cond.classLink own ik cls :: Cond.initialized cls :: vx_atS own ic cls names, vx_ot w = true)
    (hU : vx_Zq Bundle.tN "UNASSIGNED_STACK" Bundle.steD A s s.heap) (hN : vx_Zq Bundle.tN "SUPPRESSED_SENTINEL" Bundle.listD A s s.heap) (hS : va_S A s.heap H locs) (hsize : ls.size = c.maxLocals)
    (d0 : decode cc pc = .ok (.new ik, 3)) (d3 : decode cc (pc + 3) = .ok (.dup, 1)) (d4 : decode cc (pc + 4) = .ok (.ldc_w is, 3)) (d7 : decode cc (pc + 7) = .ok (.invokespecial ic, 3)) (d10 : decode cc (pc + 10) = .ok (.athrow, 1))
    (hout : ∀ x ∈ c.exceptionTable.toList, covers x (pc + 10) = false)
    (hRframes : names.length + 3 < R.frames) (hRlocals : (rest.map fun v => v.category).sum + (13 * (names.length + 1) + 43) ≤ R.locals) (hRcells : cells + 1 ≤ R.cells) (hRslots : slots + 6 ≤ R.slots) (hlocks : meth.locks = false)
    (hx : ∀ t : State, s.vm.Alike t.vm → H.size ≤ t.heap.size → (∀ q : Nat, q < H.size → t.heap[q]? = H[q]?) → XC cls s t)
    (hf : ∀ z ∈ locs, free z.base) (hc : cells + 1 ≤ mc) (hs : slots + 6 ≤ ms) :
    W p l e R s m args below meth c H locs cells slots (vx_MQ below Qc XC args s mc ms free) (F0 m pc ls rest) := by
  intro T hT X
  have htr : e.platform.stackTraces = false := (show e.platform.stackTraces = l.stackTraces by rw [X.admits.platform]).trans hl
  have Y := vx_rebase X (R' := { frames := R.frames, locals := R.locals, cells := 1, slots := 6 }) (Nat.le_refl _) (Nat.le_refl _) hRcells hRslots
  obtain ⟨s', hA⟩ : ∃ z, z = (T.setVm s.vm).setFrames (.invoking m args :: below) := ⟨_, rfl⟩
  rw [← hA] at Y
  have hvm : s'.vm = s.vm := by rw [hA]; rfl
  have hhp : s'.heap = H := by rw [hA]; exact hT
  have hW0 : s.WarmedH s'.vm := by rw [hvm]; exact State.WarmedH.refl s
  have hat' : ∀ w ∈ vx_atS own ic cls names, w.before args s' = true := fun w hw => vx_ot_at hW0 hvm.symm (hgood w (List.mem_cons_of_mem _ (List.mem_cons_of_mem _ hw))) (hat w hw)
  have hk' : (Cond.classLink own ik cls).before args s' = true := vx_ot_at hW0 hvm.symm (hgood _ List.mem_cons_self) hk
  have hini' : (Cond.initialized cls).before args s' = true := vx_ot_at hW0 hvm.symm (hgood _ (List.mem_cons_of_mem _ List.mem_cons_self)) hini
  have hU' : vx_Zq Bundle.tN "UNASSIGNED_STACK" Bundle.steD A s' s'.heap := by rw [hhp]; exact vx_Zq.moved hW0.alike (hU.kept hS.2.1)
  have hN' : vx_Zq Bundle.tN "SUPPRESSED_SENTINEL" Bundle.listD A s' s'.heap := by rw [hhp]; exact vx_Zq.moved hW0.alike (hN.kept hS.2.1)
  have h : ∀ w ∈ Bundle.ownAtoms own ic cls names, w.before args s' = true := vx_own hat' (vx_isRefq hU'.1) (vx_isRefq hN'.1) hU'.2.word hN'.2.word
  have hown' : s'.vm.findClass own = some m.cls := by rw [hvm]; exact hown
  have hins : (Cond.instantiable cls 6).before args s' = true := h _ (by simp [Bundle.ownAtoms])
  obtain ⟨vm₁, cX, kX, hfX, hkX, -, -, X₁, st1⟩ := Y.newCold hexec (own := own) (C := cls) (index := ik) (n := 6) hown' hk' hins hini'
    (g := F0 m pc ls rest) rfl (by rw [hb]; exact d0) (Nat.le_refl _) (Nat.le_refl _)
  generalize hT1 : (T.setVm vm₁).pushCell { cls := cX, slots := kX.instanceTypes.map defaultValue, vm := .none } = T1 at X₁ st1
  have hcat : (Value.ref T.heap.size).category = 1 := rfl
  have hcellA : T1.heap[T.heap.size]? = some (freshCell cX kX) := by rw [← hT1]; exact State.heap_pushCell_size _ _
  have d3' : decode c.code (pc + 3) = .ok (.dup, 1) := by rw [hb]; exact d3
  have d4' : decode c.code (pc + 4) = .ok (.ldc_w is, 3) := by rw [hb]; exact d4
  have hstr' : vk_R own is text sa s' := vk_R.warm hW0 hstr
  obtain ⟨U, hsteps, hrun, hend, hW, hsame, ce, hce, hO⟩ := X₁.ctorThrowS hexec htr (own := own) (cls := cls) (names := names) (ic := ic) hown' hcls hnames h (fun x hx => nomatch hx) hfX hkX hcellA (by rw [hhp, hT]; exact Nat.le_refl _) (msg := .ref sa) rfl
    (g := { method := m, pc := pc + 7, locals := ls, stack := .ref sa :: .ref T.heap.size :: .ref T.heap.size :: rest, locked := none }) rfl hsize rfl rfl (rest := rest) rfl
    (by rw [hb]; exact d7) (by rw [hb]; exact d10) hout hRframes (by simp only [List.map_cons, List.sum_cons, hcat]; omega) hlocks
  obtain ⟨f1, f2⟩ := vx_frame hsame
  rw [hhp] at f1 f2
  have hWs : s.WarmedH U.vm := State.WarmedH.trans hW0 hW
  have hcl : s.vm.findClass cls = some ce.cls := by
    have h9 := hO.cls
    rw [hvm] at h9
    exact h9
  have hall : s.sameButNew ({ U with vm := s.vm } : State) locs mc ms := by
    subst hA
    obtain ⟨e1, e2⟩ := hsame
    rw [State.setFrames_setFrames] at e1
    have h2 : (T.setVm s.vm).sameButNew ({ U with vm := s.vm } : State) [] (0 + 1) (0 + 6) := ⟨e1, e2⟩
    have h3 := X.same.trans h2
    rw [List.append_nil] at h3
    exact h3.mono hc hs
  refine ⟨U, ?_, .threw T.heap.size, hrun, hend, Or.inr ⟨T.heap.size, rfl, cls, ce, locs, hx U hWs.alike f1 (fun q hq => f2 q hq (fun z hz => nomatch hz)), hce, hO.vm, hcl, hWs, hall, hf⟩⟩
  refine st1 _ ?_
  show Steps p.tables e below (T1.setTop { method := m, pc := pc + 3, locals := ls, stack := .ref T.heap.size :: rest, locked := none }) _
  jvm_step X₁.here [X₁.here.top, hexec, d3', Value.category]
  exact X₁.ldcStringW hexec (own := own) (text := text) (index := is) (a := sa) hown' hstr'.1 hstr'.2
    (g := { method := m, pc := pc + 4, locals := ls, stack := .ref T.heap.size :: .ref T.heap.size :: rest, locked := none }) rfl d4' _ hsteps
end Ends
section Bodies
variable {l : Launch}
theorem vx_ofW {y : MethodName} {ws ws' : List Cond} {rm : Room} {Pc : Array Value → State → Prop} {Qc : Array Value → State → Outcome → State → Prop} {XC : String → State → State → Prop} {mc ms : Nat} {free : Addr → Prop} {cc : ByteArray} {maxL : Nat} {ret : Option FieldType}
    (hy : plainName y.cls = true) (hw : ws = Cond.code y cc maxL ret :: ws')
    (body : ∀ p e s m args below meth c s₁, BodyLoose p l y (headSpec ws rm) cc maxL ret e s m args below meth c s₁ → c.maxLocals = maxL → (∀ x ∈ c.exceptionTable.toList, False) → Pc args s →
      W p l e (headSpec ws rm).room s m args below meth c s.heap [] 0 0 (vx_MQ below Qc XC args s mc ms free) (entryFrame m args maxL)) : vx_Met l y ws rm Pc Qc XC mc ms free := by
  refine MetFree.of_bodyS (code := cc) (maxLocals := maxL) (ret := ret) hy ?_ ?_
  · intro args s m h hn
    obtain ⟨meth, c, h1, h2, h3, h4, h5, h6, -, -⟩ := Cond.code_spec hn (atoms_spec (ws := ws) h _ (by rw [hw]; exact List.mem_cons_self))
    exact ⟨meth, c, h1, h2, h3, h4, h5, h6⟩
  · intro p e s m args below meth c s₁ B hml hP _
    have hh0 : s₁.heap = s.heap := by rw [B.state]; rfl
    have ht : ∀ x ∈ c.exceptionTable.toList, False := by
      obtain ⟨meth9, c9, h1, h2, -, -, -, -, h7, -⟩ := Cond.code_spec B.named (atoms_spec (ws := ws) B.pre _ (by rw [hw]; exact List.mem_cons_self))
      cases Option.some.inj (h1.symm.trans B.method)
      cases Option.some.inj (h2.symm.trans (Stand.of_body B).code)
      intro x hx
      rw [Array.isEmpty_iff.mp h7] at hx
      cases hx
    obtain ⟨t, a1, o, b1, b2, b3⟩ := body p e s m args below meth c s₁ B hml ht hP s₁ hh0 (Stand.of_body B)
    exact ⟨t, o, a1, b1, b2, b3⟩
/-- the table of a body with handlers -/
theorem vx_table {p : Program} {x y : MethodName} {S : Spec} {cc bytes : ByteArray} {maxL maxL' : Nat} {ret ret' : Option FieldType} {e : Env} {s s₁ : State} {m : MethodId} {args : Array Value} {below : List Frame} {meth : Method} {c : Code} {hh : List (Nat × Nat × Nat × Nat)}
    (B : BodyLoose p l y S cc maxL ret e s m args below meth c s₁) (h : (Cond.codeWith y bytes maxL' ret' hh).before args s = true) : c.exceptionTable.toList = tableOf hh := by
  obtain ⟨m9, meth9, c9, hn9, h1, h2, -, -, h6, -⟩ := Cond.codeWith_spec h
  cases Option.some.inj (hn9.symm.trans B.named)
  cases Option.some.inj (h1.symm.trans B.method)
  cases Option.some.inj (h2.symm.trans (Stand.of_body B).code)
  rw [← h6, table_eq]
end Bodies
end VXA
/-! ===== END ===== -/
/-! ===== BEGIN a static call of a method with an exception table ===== -/
section VXS
variable {p : Program} {l : Launch} {e : Env} {R : Room} {s : State} {m : MethodId} {args : Array Value} {below : List Frame} {meth : Method} {c : Code} {T : State} {H : Heap} {locs : List Loc} {cells slots : Nat}
abbrev vx_CSW (R : Room) (s : State) (args : Array Value) (own : String) (index : Nat) (y : MethodName) (bytes : ByteArray) (maxL : Nat) (ret : Option FieldType) (hh : List (Nat × Nat × Nat × Nat)) (ws : List Cond) (rm : Room) (mc ms n : Nat) : Prop :=
  (rm.cells = mc ∧ rm.slots = ms ∧ rm.frames + 1 ≤ R.frames ∧ 8 + (maxL + 11) + rm.locals ≤ R.locals ∧ (∀ w ∈ ws, ∀ (a' : Array Value) (U : State), s.WarmedH U.vm → w.before a' U = true) ∧ Cond.codeWith y bytes maxL ret hh ∈ ws) ∧
  (Cond.codeWith y bytes maxL ret hh).before args s = true ∧ (Cond.initialized y.cls).before args s = true ∧ (y.cls ≠ "java/lang/invoke/MethodHandle" ∧ y.cls ≠ "java/lang/invoke/VarHandle") ∧
  (∀ sig, parseMethodDescriptor y.desc = some sig → n = sig.parameters.length) ∧ (Cond.methodLink own index y).before args s = true ∧ (Cond.static y).before args s = true
theorem vx_cwSW {own : String} {index maxL mc ms : Nat} {y : MethodName} {bytes : ByteArray} {ret : Option FieldType} {hh : List (Nat × Nat × Nat × Nat)} {Ts ws ws' : List Cond} {rm : Room} (n : Nat) (ht : ∀ w ∈ Ts, w.before args s = true) (hT : GoodIn Ts (va_wsS own index y ws)) (hw : ws = Cond.codeWith y bytes maxL ret hh :: ws') (hrc : rm.cells = mc) (hrs : rm.slots = ms)
    (hd : y.cls ≠ "java/lang/invoke/MethodHandle" ∧ y.cls ≠ "java/lang/invoke/VarHandle" ∧ (parseMethodDescriptor y.desc).map (fun d => d.parameters.length) = some n) (hR : rm.frames + 1 ≤ R.frames ∧ 8 + (maxL + 11) + rm.locals ≤ R.locals) :
    vx_CSW R s args own index y bytes maxL ret hh ws rm mc ms n := by
  have ok : ∀ w ∈ va_wsS own index y ws, w.before args s = true := fun w h => ht w (hT w h).1
  have hG : GoodIn Ts ws := fun w h => hT w (by unfold va_wsS; exact List.mem_append_right _ h)
  have hc : Cond.codeWith y bytes maxL ret hh ∈ ws := by rw [hw]; exact List.mem_cons_self
  refine ⟨⟨hrc, hrs, hR.1, hR.2, pay_in ht hG, hc⟩, ht _ (hG _ hc).1, ok _ (by simp [va_wsS]), ⟨hd.1, hd.2.1⟩, fun sig h => ?_, ok _ (by simp [va_wsS]), ok _ (by simp [va_wsS])⟩
  have h2 := hd.2.2
  rw [h] at h2
  exact (Option.some.inj h2).symm
theorem vx_callSW (X : Stand p l e R s m args below meth c T locs cells slots) (hexec : p.tables.exec = Jvm.exec) {own : String} {index : Nat} {y : MethodName} {bytes : ByteArray} {maxL : Nat} {ret : Option FieldType} {hh : List (Nat × Nat × Nat × Nat)}
    (hown : s.vm.findClass own = some m.cls) (hlink : (Cond.methodLink own index y).before args s = true) (hstat : (Cond.static y).before args s = true) (hinit : (Cond.initialized y.cls).before args s = true)
    (hcode : (Cond.codeWith y bytes maxL ret hh).before args s = true) (hy : y.cls ≠ "java/lang/invoke/MethodHandle" ∧ y.cls ≠ "java/lang/invoke/VarHandle")
    {W9 : Nat} {Pre : Pt → Array Value → Prop} {Post : Pt → Array Value → Option Value → Pt → Prop} (hK : Back l R p e below s args y 3 W9 Pre Post)
    {g : JFrame} (hg : g.method = m) (hsize : g.locals.size = c.maxLocals) {argsL rest : List Value} (hlen : ∀ sig, parseMethodDescriptor y.desc = some sig → argsL.length = sig.parameters.length)
    (hstack : g.stack = argsL.reverse ++ rest) (hW : 2 * g.monitorRoom + (rest.map fun v => v.category).sum ≤ W9) (hdg : decode c.code g.pc = .ok (.invokestatic index, 3))
    (hpre : ∀ vm₁, s.WarmedH vm₁ → Pre ⟨T.setVm vm₁, locs, cells, slots⟩ argsL.toArray) :
    ∃ (v : Option Value) (vm₁ : Vm) (B : Pt), s.WarmedH vm₁ ∧ Stand p l e R s m args below meth c B.U B.locs B.cells B.slots ∧ Post ⟨T.setVm vm₁, locs, cells, slots⟩ argsL.toArray v B ∧
      ∀ target, Steps p.tables e below (B.U.setTop { g with pc := g.pc + 3, stack := v.toList ++ rest }) target → Steps p.tables e below (T.setTop g) target := by
  obtain ⟨mk, methM, cM, hnamed, hmethM, -, -, -, -, -, -, hsigM⟩ := Cond.codeWith_spec hcode
  have hstatic : methM.isStatic = true := Cond.static_spec hnamed hmethM hstat
  obtain ⟨kP, hkP, -⟩ := className_of_methodNamed hnamed
  have hinitP : kP.init = .initialized := Cond.initialized_spec (findClass_of_methodNamed hnamed) hkP hinit
  obtain ⟨vm₁, X₁, hstep₁⟩ := X.invokestatic hexec hown hlink hnamed hmethM hstatic hkP hinitP hy (g := g) hg (argsL := argsL) (rest := rest) (hlen _ hsigM) hstack hdg
  obtain ⟨v, B, X', hpost, hsteps⟩ := hK m meth c ⟨T.setVm vm₁, locs, cells, slots⟩ { g with stack := rest } (.invokestatic index) mk argsL.toArray X₁ hg hsize hdg hW (X₁.named hnamed) (hpre vm₁ X₁.warmed)
  exact ⟨v, vm₁, B, X₁.warmed, X', hpost, fun target h => hstep₁ _ fun acts => by rw [doInvoke_state]; exact hsteps.trans h⟩
theorem vx_runSW {y : MethodName} {bytes cc : ByteArray} {maxL nL mc ms n index : Nat} {ret : Option FieldType} {hh : List (Nat × Nat × Nat × Nat)} {ws : List Cond} {rm : Room} {Pc : Array Value → State → Prop} {Qc : Array Value → State → Outcome → State → Prop} {free : Addr → Prop} {Ts : List Cond} {own : String} {As rest : List Value} {g : JFrame}
    (S : CallFix p m c cc nL s args Ts own) (hM : Met l y ws rm Pc Qc mc ms free) (cw : vx_CSW R s args own index y bytes maxL ret hh ws rm mc ms n) (hp : PreS s H Pc As)
    (hg : g.method = m) (hn : As.length = n) (hsize : g.locals.size = nL) (hstack : g.stack = As.reverse ++ rest) (hW : 2 * g.monitorRoom + (rest.map fun v => v.category).sum ≤ 8) (hdg : decode cc g.pc = .ok (.invokestatic index, 3)) (hf : cells + mc ≤ R.cells ∧ slots + ms ≤ R.slots) :
    va_Run p l e R s m args below meth c H locs cells slots mc ms g rest (Qc As.toArray) (free) := by
  obtain ⟨⟨hrc, hrs, hfr, hlo, hws, hcw⟩, hcode, hini, hy, hlen, hl, hstt⟩ := cw
  have hK : Back l R p e below s args y 3 8 (PreOf R mc ms Pc) (PostOf Qc mc ms free) := va_backW (hh := hh) (bytes := bytes) (maxL := maxL) (ret := ret) hM hp.1 hrc hrs hfr hlo hws hcw (fun a' U hW => word_at hW (Or.inl (by first | rfl | simp [Cond.onTables, Cond.keeps, Cond.steady])) hini)
  obtain ⟨hx, hb, hml, ho, -⟩ := S
  intro T hT X
  obtain ⟨v, vm₁, ⟨U', l2, c2, s2⟩, hW₁, X', ⟨g', mk, t, L, e1, e2, hq, h1, hL, h2, h3⟩, st⟩ := vx_callSW X hx (hh := hh) (bytes := bytes) (maxL := maxL) (ret := ret) ho hl hstt hini hcode hy hK hg (hsize.trans hml.symm) (argsL := As) (rest := rest) (fun sig h => hn.trans (hlen sig h)) hstack hW (by rw [hb]; exact hdg)
    (fun vm₁ hW₁ => ⟨hf.1, hf.2, hp.2 (T.setVm vm₁) hT hW₁⟩)
  dsimp only [Pt.U, Pt.locs, Pt.cells, Pt.slots] at X' e1 e2 h1 h2 h3 st
  subst h1; subst h2; subst h3
  exact ⟨v, (T.setVm vm₁).calling g' mk As.toArray, t, U', L, hT, X', hL, e1, e2, hq, st⟩
/-- not caught here, past rows that name other classes: it goes on to the caller -/
theorem vx_outP {p : Program} {l : Launch} {e : Env} {R : Room} {s : State} {m : MethodId} {args : Array Value} {below : List Frame} {meth : Method} {c : Code} {H : Heap} {locs : List Loc} {cells slots : Nat} {free : Addr → Prop} {ls : Array Slot} {rest : List Value} {Qc : Array Value → State → Outcome → State → Prop} {XC : String → State → State → Prop}
    {pc : Nat} {own E : String} {ce : Cell} {q : Addr} {mc ms : Nat} (hown : s.vm.findClass own = some m.cls) (hlocks : meth.locks = false)
    (hpass : ∀ z ∈ c.exceptionTable.toList, covers z pc = false ∨ (z.catchType ≠ 0 ∧ ∃ nm : String, (Cond.classLink own z.catchType nm).before args s = true ∧ va_Nc E nm s)) (hcell : H[q]? = some ce) (hv : ce.vm = .none) (hcl : s.vm.findClass E = some ce.cls)
    (hx : ∀ t : State, t.heap = H → s.vm.Alike t.vm → XC E s t) (hf : ∀ z ∈ locs, free z.base) (hc : cells ≤ mc) (hs : slots ≤ ms) :
    vx_W p l e R s m args below meth c H locs cells slots (vx_MQ below Qc XC args s mc ms free) (F0 m pc ls rest) q := by
  intro T hT X
  have hpl : e.platform.magicAccessors = ({} : Platform).magicAccessors := by rw [X.admits.platform]
  obtain ⟨vm', hW', X', st⟩ := X.outThrough hlocks q (g := F0 m pc ls rest) rfl rfl rfl (cell := ce) (by rw [hT]; exact hcell) (by rw [hv]; rfl)
    (by obtain ⟨k9, h9, -⟩ := Vm.findClass_spec hcl; exact ⟨k9, h9⟩) (fun z hz => by
      rcases hpass z hz with h | ⟨hz0, nm, hl1, hn1⟩
      · exact Or.inl h
      · obtain ⟨c6, hc6, hcl6⟩ := Cond.classLink_spec hown hl1 e.platform hpl
        obtain ⟨a8, b8, h1, h2, h3⟩ := hn1
        cases Option.some.inj (h1.symm.trans hcl)
        cases Option.some.inj (h2.symm.trans hc6)
        exact Or.inr ⟨hz0, _, hcl6, h3⟩)
  obtain ⟨g₀, hfr⟩ := X'.frames_eq
  have hcell9 : ((T.setVm vm').setFrames (.throwing q :: below)).heap[q]? = some ce := by
    show T.heap[q]? = some ce
    rw [hT]; exact hcell
  have hend : Ended ((T.setVm vm').setFrames (.throwing q :: below)) below (.threw q) := State.frames_setFrames _ (State.cur_lt_of_frames hfr)
  refine ⟨(T.setVm vm').setFrames (.throwing q :: below), ?_, .threw q, X'.here.running, hend, Or.inr ⟨q, rfl, E, ce, locs, hx _ hT (X'.ends _).1.alike, hcell9, hv, hcl, (X'.ends _).1, (X'.ends _).2.mono hc hs, hf⟩⟩
  rw [X.pushThrowing_eq]
  exact st
/-- a thing of a world lies in the heap -/
theorem vx_lt {D : va_G} {cl : List vw_C} {ws : va_W} {H1 : Heap} (h : va_P D cl ws H1) {k : Nat} {q : Nat × va_E} (hk : ws[k]? = some q) : q.1 < H1.size := (h k q hk).lt
end VXS
/-! ===== END ===== -/
/-! ===== BEGIN methods with a table of their own: called by a name, returning or throwing ===== -/
section VXH
/-! vx_backW, vx_callVX, vx_callSX, vx_callVW, vx_runVW, vx_runVX, vx_runSX, vx_ofWH follow the same proofs as their sisters above (Free/Laws.lean, Shelf42/LK1.lean); vx_outP calls Shelf42/NT130.lean (outThrough). -/
section
variable {l : Launch} {R : Room} {p : Program} {e : Env} {below : List Frame} {s : State} {sargs : Array Value} {y : MethodName} {len W9 : Nat}
theorem vx_backW {ws : List Cond} {rm : Room} {Pc : Array Value → State → Prop} {Qc : Array Value → State → Outcome → State → Prop} {XC : String → State → State → Prop} {mc ms : Nat} {free : Addr → Prop} {bytes : ByteArray} {maxL : Nat} {ret : Option FieldType} {hh : List (Nat × Nat × Nat × Nat)}
    (hM : vx_Met l y ws rm Pc Qc XC mc ms free) (hblind : FrameBlind Pc) (hrc : rm.cells = mc) (hrs : rm.slots = ms)
    (hframes : rm.frames + 1 ≤ R.frames) (hlocals : W9 + (maxL + 11) + rm.locals ≤ R.locals)
    (hws : ∀ w ∈ ws, ∀ a' U, s.WarmedH U.vm → w.before a' U = true) (hcode : Cond.codeWith y bytes maxL ret hh ∈ ws) (hinit : ∀ a' U, s.WarmedH U.vm → (Cond.initialized y.cls).before a' U = true) :
    vx_Back l R p e below s sargs y len W9 (PreOf R mc ms Pc) (PostOf Qc mc ms free) (vx_Post XC mc ms free) := by
  intro m meth c A g ig mk a X hg hsize hdg hW hn hp
  have h1 : (headSpec ws rm).pre.before a A.U = true := atoms_intro fun w hw => hws w hw _ _ X.warmed
  have h2 : (Cond.codeWith y bytes maxL ret hh).before a A.U = true := hws _ hcode _ _ X.warmed
  have h3 : (Cond.initialized y.cls).before a A.U = true := hinit _ _ X.warmed
  have h4 : A.cells + (headSpec ws rm).room.cells ≤ R.cells := by rw [show (headSpec ws rm).room.cells = mc from hrc]; exact hp.1
  have h5 : A.slots + (headSpec ws rm).room.slots ≤ R.slots := by rw [show (headSpec ws rm).room.slots = ms from hrs]; exact hp.2.1
  have hPc : Pc a (A.U.calling g mk a) := hblind _ _ _ _ hp.2.2
  obtain ⟨U, Ls, c0, s0⟩ := A
  dsimp only [Pt.U, Pt.locs, Pt.cells, Pt.slots] at h1 h2 h3 h4 h5 X hn hPc ⊢
  obtain ⟨m9, methY, cY, hn9, hmY, hcY, -, hlY, -⟩ := Cond.codeWith_spec h2
  cases Option.some.inj (hn9.symm.trans hn)
  obtain ⟨kY, hkY, -⟩ := className_of_methodNamed hn
  have hinitY : kY.init = .initialized := Cond.initialized_spec (findClass_of_methodNamed hn) hkY h3
  have h : At U g.method c below := by rw [hg]; exact X.here
  have hlocals9 : W9 + (maxL + 11) + (headSpec ws rm).room.locals ≤ R.locals := hlocals
  have happ : (headSpec ws rm).appliesLoose y e.platform (U.calling g mk a) = true :=
    Spec.appliesLoose_calling (g := g) h hdg hn hkY hinitY
      (X.room_calling (g := g) (R' := (headSpec ws rm).room) hsize hmY hcY hframes (by rw [hlY]; omega) h4 h5) h1
  obtain ⟨mid, hmid⟩ := h.above
  have hfr : (U.setTop g).frames = (.java g :: mid) ++ below := by rw [State.frames_setTop' g h.top, hmid]; rfl
  obtain ⟨o, s₂, hsteps, -, hend, hq⟩ := Steps.callFree hM p X.admits X.cas X.clock (acts := []) hfr happ hPc trivial
  have hq' : vx_Q Qc XC mc ms free a (U.calling g mk a) o s₂ := hq
  rw [State.frames_setTop' g h.top] at hend
  obtain ⟨g₀, hg0⟩ := Option.isSome_iff_exists.mp h.top
  obtain ⟨r, hr⟩ := State.topJava?_eq_some.mp hg0
  have hr' : (({ U with heap := s₂.heap, slotsUsed := s₂.slotsUsed } : State).setVm s₂.vm).frames = .java g₀ :: r := hr
  rcases hq' with ⟨hqc, L, hfe, hL⟩ | ⟨q, rfl, E, ce, L, hx, hce, hcv, hcl, hW₂, hsm, hL⟩
  · obtain ⟨⟨v, rfl⟩, hW₂, e2, q2, q3, q4, q5, q6⟩ := id hfe
    have e3 : s₂ = ({ (U.calling g mk a).setFrames s₂.frames with heap := s₂.heap, slotsUsed := s₂.slotsUsed } : State).setVm s₂.vm := by
      have : s₂ = ({ s₂ with vm := (U.calling g mk a).vm } : State).setVm s₂.vm := rfl
      rw [e2] at this
      exact this
    obtain ⟨c₂, i₂, len₂, hc₂, hd₂, hf₂⟩ := hend
    have hW' : U.WarmedH s₂.vm := hW₂
    have hcc : c₂ = c := by
      have h1 : s₂.code? g.method = U.code? g.method := by
        rw [State.code?_eq, State.code?_eq, hW'.alike.method?]
      exact Option.some.inj (hc₂.symm.trans (h1.trans h.code))
    subst hcc
    have hlen : len₂ = len := by rw [hdg] at hd₂; cases hd₂; rfl
    subst hlen
    have hs₂ : s₂ = (({ U with heap := s₂.heap, slotsUsed := s₂.slotsUsed } : State).setVm s₂.vm).setTop { g with pc := g.pc + len₂, stack := v.toList ++ g.stack } := by
      refine e3.trans ?_
      rw [hf₂, State.calling_eq h.top, State.setFrames_setFrames, State.setTop_of_frames _ hr', hr]
      rfl
    have hsame : U.sameButNew ({ U with heap := s₂.heap, slotsUsed := s₂.slotsUsed } : State) L mc ms := by
      refine ⟨?_, q2, q3, q4, q5, q6⟩
      obtain ⟨t, ht, -⟩ := State.frames_cons hr
      show ({ U with heap := s₂.heap, slotsUsed := s₂.slotsUsed } : State) = { U.setFrames U.frames with heap := s₂.heap, slotsUsed := s₂.slotsUsed }
      rw [State.setFrames_self ht]
    subst hg
    refine Or.inl ⟨v, ⟨(({ U with heap := s₂.heap, slotsUsed := s₂.slotsUsed } : State).setVm s₂.vm), Ls ++ L, c0 + mc, s0 + ms⟩,
      ⟨X.admits, X.cas, X.clock, X.frames, X.room, X.hears, X.method, X.code, (X.here.setHeapUsed s₂.heap s₂.slotsUsed).setVm hW'.alike, X.tail, State.WarmedH.trans X.warmed hW', X.limits, X.bytes, X.same.trans (hsame.setVm s.vm)⟩,
      ⟨g, mk, s₂, L, rfl, rfl, hqc, rfl, hL, rfl, rfl⟩, ?_⟩
    show Steps p.tables e below _ ((({ U with heap := s₂.heap, slotsUsed := s₂.slotsUsed } : State).setVm s₂.vm).setTop { g with pc := g.pc + len₂, stack := v.toList ++ g.stack })
    rw [← hs₂]
    exact hsteps
  · obtain ⟨e2, q2, q3, q4, q5, q6⟩ := id hsm
    have e3 : s₂ = ({ (U.calling g mk a).setFrames s₂.frames with heap := s₂.heap, slotsUsed := s₂.slotsUsed } : State).setVm s₂.vm := by
      have : s₂ = ({ s₂ with vm := (U.calling g mk a).vm } : State).setVm s₂.vm := rfl
      rw [e2] at this
      exact this
    have hf₂ : s₂.frames = .throwing q :: .java g :: U.frames.tail := hend
    have hW' : U.WarmedH s₂.vm := hW₂
    have hs₂ : s₂ = ((({ U with heap := s₂.heap, slotsUsed := s₂.slotsUsed } : State).setVm s₂.vm).setTop g).pushFrame (.throwing q) := by
      refine e3.trans ?_
      rw [hf₂, State.calling_eq h.top, State.setFrames_setFrames, State.pushFrame, State.frames_setTop _ hr', State.setTop_of_frames _ hr', State.setFrames_setFrames, hr]
      rfl
    have hsame : U.sameButNew ({ U with heap := s₂.heap, slotsUsed := s₂.slotsUsed } : State) L mc ms := by
      refine ⟨?_, q2, q3, q4, q5, q6⟩
      obtain ⟨t, ht, -⟩ := State.frames_cons hr
      show ({ U with heap := s₂.heap, slotsUsed := s₂.slotsUsed } : State) = { U.setFrames U.frames with heap := s₂.heap, slotsUsed := s₂.slotsUsed }
      rw [State.setFrames_self ht]
    subst hg
    refine Or.inr ⟨q, ⟨(({ U with heap := s₂.heap, slotsUsed := s₂.slotsUsed } : State).setVm s₂.vm), Ls ++ L, c0 + mc, s0 + ms⟩,
      ⟨X.admits, X.cas, X.clock, X.frames, X.room, X.hears, X.method, X.code, (X.here.setHeapUsed s₂.heap s₂.slotsUsed).setVm hW'.alike, X.tail, State.WarmedH.trans X.warmed hW', X.limits, X.bytes, X.same.trans (hsame.setVm s.vm)⟩,
      ⟨g, mk, s₂, L, E, ce, rfl, rfl, hx, hce, hcv, hcl, rfl, hL, rfl, rfl⟩, ?_⟩
    show Steps p.tables e below _ (((({ U with heap := s₂.heap, slotsUsed := s₂.slotsUsed } : State).setVm s₂.vm).setTop g).pushFrame (.throwing q))
    rw [← hs₂]
    exact hsteps
end
variable {p : Program} {l : Launch} {e : Env} {R : Room} {s : State} {m : MethodId} {args : Array Value} {below : List Frame} {meth : Method} {c : Code} {T : State} {H : Heap} {locs : List Loc} {cells slots : Nat}
theorem vx_callVX (X : Stand p l e R s m args below meth c T locs cells slots) (hexec : p.tables.exec = Jvm.exec) {own C : String} {index : Nat} {y : MethodName} {bytes : ByteArray} {maxL : Nat} {ret : Option FieldType} {hh : List (Nat × Nat × Nat × Nat)}
    (hown : s.vm.findClass own = some m.cls) (hlink : (Cond.methodLink own index y).before args s = true) (hinst : (Cond.instanceMethod y).before args s = true) (hsel : (Cond.selects C y y).before args s = true)
    (hcode : (Cond.codeWith y bytes maxL ret hh).before args s = true) (hy : y.cls ≠ "java/lang/invoke/MethodHandle" ∧ y.cls ≠ "java/lang/invoke/VarHandle")
    {W9 : Nat} {Pre : Pt → Array Value → Prop} {Post : Pt → Array Value → Option Value → Pt → Prop} {PostX : Pt → Array Value → Addr → Pt → Prop} (hK : vx_Back l R p e below s args y 3 W9 Pre Post PostX)
    {b : Addr} {cellB : Cell} (hcell : T.heap[b]? = some cellB) (hobj : cellB.vm.isStatics = false) (hcls : s.vm.findClass C = some cellB.cls)
    {g : JFrame} (hg : g.method = m) (hsize : g.locals.size = c.maxLocals) {argsL rest : List Value} (hlen : ∀ sig, parseMethodDescriptor y.desc = some sig → argsL.length = sig.parameters.length)
    (hstack : g.stack = argsL.reverse ++ .ref b :: rest) (hW : 2 * g.monitorRoom + (rest.map fun v => v.category).sum ≤ W9) (hdg : decode c.code g.pc = .ok (.invokevirtual index, 3))
    (hpre : ∀ vm₁, s.WarmedH vm₁ → Pre ⟨T.setVm vm₁, locs, cells, slots⟩ (Value.ref b :: argsL).toArray) :
    (∃ (v : Option Value) (vm₁ : Vm) (B : Pt), s.WarmedH vm₁ ∧ Stand p l e R s m args below meth c B.U B.locs B.cells B.slots ∧ Post ⟨T.setVm vm₁, locs, cells, slots⟩ (Value.ref b :: argsL).toArray v B ∧
      ∀ target, Steps p.tables e below (B.U.setTop { g with pc := g.pc + 3, stack := v.toList ++ rest }) target → Steps p.tables e below (T.setTop g) target) ∨
    (∃ (q : Addr) (vm₁ : Vm) (B : Pt), s.WarmedH vm₁ ∧ Stand p l e R s m args below meth c B.U B.locs B.cells B.slots ∧ PostX ⟨T.setVm vm₁, locs, cells, slots⟩ (Value.ref b :: argsL).toArray q B ∧
      Steps p.tables e below (T.setTop g) ((B.U.setTop { g with stack := rest }).pushFrame (.throwing q))) := by
  obtain ⟨mk, methM, hnamed, hmethM, hstM, habM⟩ := Cond.instanceMethod_spec hinst
  obtain ⟨m8, methM', cM, hn8, hmethM', -, -, -, -, -, -, hsigM⟩ := Cond.codeWith_spec hcode
  cases Option.some.inj (hn8.symm.trans hnamed)
  cases hmethM.symm.trans hmethM'
  obtain ⟨c2, r2, m2, q1, q2, q3, q4, kP, hkP, hkPi⟩ := Cond.selects_spec hsel
  cases hcls.symm.trans q1
  cases (State.methodFound?_of_named hnamed hy).symm.trans q2
  cases hnamed.symm.trans q3
  have hselP : selectMethod e.platform s.vm cellB.cls mk = .method mk := by rw [Launch.admits_selectMethod X.admits]; exact q4
  obtain ⟨vm₁, X₁, hstep₁⟩ := X.invokevirtual hexec hown hlink hnamed hmethM hstM hkP hkPi hy (a := b) (cell := cellB) hcell
    (fun z h => by rw [h] at hobj; cases hobj) hselP hmethM habM hkP hkPi (g := g) hg (argsL := argsL) (rest := rest) (hlen _ hsigM) hstack hdg
  rcases hK m meth c ⟨T.setVm vm₁, locs, cells, slots⟩ { g with stack := rest } (.invokevirtual index) mk (Value.ref b :: argsL).toArray X₁ hg hsize hdg hW (X₁.named hnamed) (hpre vm₁ X₁.warmed) with ⟨v, B, X', hpost, hsteps⟩ | ⟨q, B, X', hpost, hsteps⟩
  · exact Or.inl ⟨v, vm₁, B, X₁.warmed, X', hpost, fun target h => hstep₁ _ fun acts => by rw [doInvoke_state]; exact hsteps.trans h⟩
  · exact Or.inr ⟨q, vm₁, B, X₁.warmed, X', hpost, hstep₁ _ fun acts => by rw [doInvoke_state]; exact hsteps⟩
theorem vx_callSX (X : Stand p l e R s m args below meth c T locs cells slots) (hexec : p.tables.exec = Jvm.exec) {own : String} {index : Nat} {y : MethodName} {bytes : ByteArray} {maxL : Nat} {ret : Option FieldType} {hh : List (Nat × Nat × Nat × Nat)}
    (hown : s.vm.findClass own = some m.cls) (hlink : (Cond.methodLink own index y).before args s = true) (hstat : (Cond.static y).before args s = true) (hinit : (Cond.initialized y.cls).before args s = true)
    (hcode : (Cond.codeWith y bytes maxL ret hh).before args s = true) (hy : y.cls ≠ "java/lang/invoke/MethodHandle" ∧ y.cls ≠ "java/lang/invoke/VarHandle")
    {W9 : Nat} {Pre : Pt → Array Value → Prop} {Post : Pt → Array Value → Option Value → Pt → Prop} {PostX : Pt → Array Value → Addr → Pt → Prop} (hK : vx_Back l R p e below s args y 3 W9 Pre Post PostX)
    {g : JFrame} (hg : g.method = m) (hsize : g.locals.size = c.maxLocals) {argsL rest : List Value} (hlen : ∀ sig, parseMethodDescriptor y.desc = some sig → argsL.length = sig.parameters.length)
    (hstack : g.stack = argsL.reverse ++ rest) (hW : 2 * g.monitorRoom + (rest.map fun v => v.category).sum ≤ W9) (hdg : decode c.code g.pc = .ok (.invokestatic index, 3))
    (hpre : ∀ vm₁, s.WarmedH vm₁ → Pre ⟨T.setVm vm₁, locs, cells, slots⟩ argsL.toArray) :
    (∃ (v : Option Value) (vm₁ : Vm) (B : Pt), s.WarmedH vm₁ ∧ Stand p l e R s m args below meth c B.U B.locs B.cells B.slots ∧ Post ⟨T.setVm vm₁, locs, cells, slots⟩ argsL.toArray v B ∧
      ∀ target, Steps p.tables e below (B.U.setTop { g with pc := g.pc + 3, stack := v.toList ++ rest }) target → Steps p.tables e below (T.setTop g) target) ∨
    (∃ (q : Addr) (vm₁ : Vm) (B : Pt), s.WarmedH vm₁ ∧ Stand p l e R s m args below meth c B.U B.locs B.cells B.slots ∧ PostX ⟨T.setVm vm₁, locs, cells, slots⟩ argsL.toArray q B ∧
      Steps p.tables e below (T.setTop g) ((B.U.setTop { g with stack := rest }).pushFrame (.throwing q))) := by
  obtain ⟨mk, methM, cM, hnamed, hmethM, -, -, -, -, -, -, hsigM⟩ := Cond.codeWith_spec hcode
  have hstatic : methM.isStatic = true := Cond.static_spec hnamed hmethM hstat
  obtain ⟨kP, hkP, -⟩ := className_of_methodNamed hnamed
  have hinitP : kP.init = .initialized := Cond.initialized_spec (findClass_of_methodNamed hnamed) hkP hinit
  obtain ⟨vm₁, X₁, hstep₁⟩ := X.invokestatic hexec hown hlink hnamed hmethM hstatic hkP hinitP hy (g := g) hg (argsL := argsL) (rest := rest) (hlen _ hsigM) hstack hdg
  rcases hK m meth c ⟨T.setVm vm₁, locs, cells, slots⟩ { g with stack := rest } (.invokestatic index) mk argsL.toArray X₁ hg hsize hdg hW (X₁.named hnamed) (hpre vm₁ X₁.warmed) with ⟨v, B, X', hpost, hsteps⟩ | ⟨q, B, X', hpost, hsteps⟩
  · exact Or.inl ⟨v, vm₁, B, X₁.warmed, X', hpost, fun target h => hstep₁ _ fun acts => by rw [doInvoke_state]; exact hsteps.trans h⟩
  · exact Or.inr ⟨q, vm₁, B, X₁.warmed, X', hpost, hstep₁ _ fun acts => by rw [doInvoke_state]; exact hsteps⟩
theorem vx_callVW (X : Stand p l e R s m args below meth c T locs cells slots) (hexec : p.tables.exec = Jvm.exec) {own C : String} {index : Nat} {y : MethodName} {bytes : ByteArray} {maxL : Nat} {ret : Option FieldType} {hh : List (Nat × Nat × Nat × Nat)}
    (hown : s.vm.findClass own = some m.cls) (hlink : (Cond.methodLink own index y).before args s = true) (hinst : (Cond.instanceMethod y).before args s = true) (hsel : (Cond.selects C y y).before args s = true)
    (hcode : (Cond.codeWith y bytes maxL ret hh).before args s = true) (hy : y.cls ≠ "java/lang/invoke/MethodHandle" ∧ y.cls ≠ "java/lang/invoke/VarHandle")
    {W9 : Nat} {Pre : Pt → Array Value → Prop} {Post : Pt → Array Value → Option Value → Pt → Prop} (hK : Back l R p e below s args y 3 W9 Pre Post)
    {b : Addr} {cellB : Cell} (hcell : T.heap[b]? = some cellB) (hobj : cellB.vm.isStatics = false) (hcls : s.vm.findClass C = some cellB.cls)
    {g : JFrame} (hg : g.method = m) (hsize : g.locals.size = c.maxLocals) {argsL rest : List Value} (hlen : ∀ sig, parseMethodDescriptor y.desc = some sig → argsL.length = sig.parameters.length)
    (hstack : g.stack = argsL.reverse ++ .ref b :: rest) (hW : 2 * g.monitorRoom + (rest.map fun v => v.category).sum ≤ W9) (hdg : decode c.code g.pc = .ok (.invokevirtual index, 3))
    (hpre : ∀ vm₁, s.WarmedH vm₁ → Pre ⟨T.setVm vm₁, locs, cells, slots⟩ (Value.ref b :: argsL).toArray) :
    ∃ (v : Option Value) (vm₁ : Vm) (B : Pt), s.WarmedH vm₁ ∧ Stand p l e R s m args below meth c B.U B.locs B.cells B.slots ∧ Post ⟨T.setVm vm₁, locs, cells, slots⟩ (Value.ref b :: argsL).toArray v B ∧
      ∀ target, Steps p.tables e below (B.U.setTop { g with pc := g.pc + 3, stack := v.toList ++ rest }) target → Steps p.tables e below (T.setTop g) target := by
  obtain ⟨mk, methM, hnamed, hmethM, hstM, habM⟩ := Cond.instanceMethod_spec hinst
  obtain ⟨m8, methM', cM, hn8, hmethM', -, -, -, -, -, -, hsigM⟩ := Cond.codeWith_spec hcode
  cases Option.some.inj (hn8.symm.trans hnamed)
  cases hmethM.symm.trans hmethM'
  obtain ⟨c2, r2, m2, q1, q2, q3, q4, kP, hkP, hkPi⟩ := Cond.selects_spec hsel
  cases hcls.symm.trans q1
  cases (State.methodFound?_of_named hnamed hy).symm.trans q2
  cases hnamed.symm.trans q3
  have hselP : selectMethod e.platform s.vm cellB.cls mk = .method mk := by rw [Launch.admits_selectMethod X.admits]; exact q4
  obtain ⟨vm₁, X₁, hstep₁⟩ := X.invokevirtual hexec hown hlink hnamed hmethM hstM hkP hkPi hy (a := b) (cell := cellB) hcell
    (fun z h => by rw [h] at hobj; cases hobj) hselP hmethM habM hkP hkPi (g := g) hg (argsL := argsL) (rest := rest) (hlen _ hsigM) hstack hdg
  obtain ⟨v, B, X', hpost, hsteps⟩ := hK m meth c ⟨T.setVm vm₁, locs, cells, slots⟩ { g with stack := rest } (.invokevirtual index) mk (Value.ref b :: argsL).toArray X₁ hg hsize hdg hW (X₁.named hnamed) (hpre vm₁ X₁.warmed)
  exact ⟨v, vm₁, B, X₁.warmed, X', hpost, fun target h => hstep₁ _ fun acts => by rw [doInvoke_state]; exact hsteps.trans h⟩
abbrev vx_CVW (R : Room) (s : State) (args : Array Value) (own C : String) (index : Nat) (y : MethodName) (bytes : ByteArray) (maxL : Nat) (ret : Option FieldType) (hh : List (Nat × Nat × Nat × Nat)) (ws : List Cond) (rm : Room) (mc ms n : Nat) : Prop :=
  (rm.cells = mc ∧ rm.slots = ms ∧ rm.frames + 1 ≤ R.frames ∧ 8 + (maxL + 11) + rm.locals ≤ R.locals ∧ (∀ w ∈ ws, ∀ (a' : Array Value) (U : State), s.WarmedH U.vm → w.before a' U = true) ∧ Cond.codeWith y bytes maxL ret hh ∈ ws) ∧
  (Cond.codeWith y bytes maxL ret hh).before args s = true ∧ (Cond.initialized y.cls).before args s = true ∧ (y.cls ≠ "java/lang/invoke/MethodHandle" ∧ y.cls ≠ "java/lang/invoke/VarHandle") ∧
  (∀ sig, parseMethodDescriptor y.desc = some sig → n = sig.parameters.length) ∧ (Cond.methodLink own index y).before args s = true ∧ (Cond.instanceMethod y).before args s = true ∧ (Cond.selects C y y).before args s = true
theorem vx_cwVW {own C : String} {index maxL mc ms : Nat} {y : MethodName} {bytes : ByteArray} {ret : Option FieldType} {hh : List (Nat × Nat × Nat × Nat)} {Ts ws ws' : List Cond} {rm : Room} (n : Nat) (ht : ∀ w ∈ Ts, w.before args s = true) (hT : GoodIn Ts (wsV own index C y ws)) (hw : ws = Cond.codeWith y bytes maxL ret hh :: ws') (hrc : rm.cells = mc) (hrs : rm.slots = ms)
    (hd : y.cls = C ∧ y.cls ≠ "java/lang/invoke/MethodHandle" ∧ y.cls ≠ "java/lang/invoke/VarHandle" ∧ (parseMethodDescriptor y.desc).map (fun d => d.parameters.length) = some n) (hR : rm.frames + 1 ≤ R.frames ∧ 8 + (maxL + 11) + rm.locals ≤ R.locals) :
    vx_CVW R s args own C index y bytes maxL ret hh ws rm mc ms n := by
  obtain ⟨hC, hd⟩ := hd
  subst hC
  have ok : ∀ w ∈ wsV own index y.cls y ws, w.before args s = true := fun w h => ht w (hT w h).1
  have hG : GoodIn Ts ws := fun w h => hT w (by unfold wsV; exact List.mem_append_right _ h)
  have hc : Cond.codeWith y bytes maxL ret hh ∈ ws := by rw [hw]; exact List.mem_cons_self
  refine ⟨⟨hrc, hrs, hR.1, hR.2, pay_in ht hG, hc⟩, ht _ (hG _ hc).1, ok _ (by simp [wsV]), ⟨hd.1, hd.2.1⟩, fun sig h => ?_, ok _ (by simp [wsV]), ok _ (by simp [wsV]), ok _ (by simp [wsV])⟩
  have h2 := hd.2.2
  rw [h] at h2
  exact (Option.some.inj h2).symm
theorem vx_runVW {y : MethodName} {bytes cc : ByteArray} {maxL nL mc ms n index : Nat} {ret : Option FieldType} {hh : List (Nat × Nat × Nat × Nat)} {ws : List Cond} {rm : Room} {Pc : Array Value → State → Prop} {Qc : Array Value → State → Outcome → State → Prop} {free : Addr → Prop} {Ts : List Cond} {own C : String} {b : Addr} {As rest : List Value} {g : JFrame}
    (S : CallFix p m c cc nL s args Ts own) (hM : Met l y ws rm Pc Qc mc ms free) (cw : vx_CVW R s args own C index y bytes maxL ret hh ws rm mc ms n) (hp : PreV s H C b Pc As)
    (hg : g.method = m) (hn : As.length = n) (hsize : g.locals.size = nL) (hstack : g.stack = As.reverse ++ .ref b :: rest) (hW : 2 * g.monitorRoom + (rest.map fun v => v.category).sum ≤ 8) (hdg : decode cc g.pc = .ok (.invokevirtual index, 3)) (hf : cells + mc ≤ R.cells ∧ slots + ms ≤ R.slots) :
    va_Run p l e R s m args below meth c H locs cells slots mc ms g rest (Qc (Value.ref b :: As).toArray) free := by
  obtain ⟨⟨hrc, hrs, hfr, hlo, hws, hcw⟩, hcode, hini, hy, hlen, hl, hin, hse⟩ := cw
  have hK : Back l R p e below s args y 3 8 (PreOf R mc ms Pc) (PostOf Qc mc ms free) := va_backW (hh := hh) (bytes := bytes) (maxL := maxL) (ret := ret) hM hp.1 hrc hrs hfr hlo hws hcw (fun a' U hW => word_at hW (Or.inl (by first | rfl | simp [Cond.onTables, Cond.keeps, Cond.steady])) hini)
  obtain ⟨hx, hb, hml, ho, -⟩ := S
  obtain ⟨-, ⟨cellB, hcB, hoB, hclB⟩, hPc⟩ := hp
  intro T hT X
  obtain ⟨v, vm₁, ⟨U', l2, c2, s2⟩, hW₁, X', ⟨g', mk, t, L, e1, e2, hq, h1, hL, h2, h3⟩, st⟩ := vx_callVW X hx (C := C) (hh := hh) (bytes := bytes) (maxL := maxL) (ret := ret) ho hl hin hse hcode hy hK (by rw [hT]; exact hcB) hoB hclB hg (hsize.trans hml.symm) (argsL := As) (rest := rest) (fun sig h => hn.trans (hlen sig h)) hstack hW (by rw [hb]; exact hdg)
    (fun vm₁ hW₁ => ⟨hf.1, hf.2, hPc (T.setVm vm₁) hT hW₁⟩)
  dsimp only [Pt.U, Pt.locs, Pt.cells, Pt.slots] at X' e1 e2 h1 h2 h3 st
  subst h1; subst h2; subst h3
  exact ⟨v, (T.setVm vm₁).calling g' mk (Value.ref b :: As).toArray, t, U', L, hT, X', hL, e1, e2, hq, st⟩
section
variable {y : MethodName} {bytes cc : ByteArray} {maxL nL mc ms n index : Nat} {ret : Option FieldType} {ws : List Cond} {rm : Room} {Pc : Array Value → State → Prop} {Qc : Array Value → State → Outcome → State → Prop} {XC : String → State → State → Prop} {free : Addr → Prop} {Ts : List Cond} {own C : String} {b : Addr} {As rest : List Value} {g : JFrame}
theorem vx_runVX {hh : List (Nat × Nat × Nat × Nat)} (S : CallFix p m c cc nL s args Ts own) (hM : vx_Met l y ws rm Pc Qc XC mc ms free) (cw : vx_CVW R s args own C index y bytes maxL ret hh ws rm mc ms n) (hp : PreV s H C b Pc As)
    (hg : g.method = m) (hn : As.length = n) (hsize : g.locals.size = nL) (hstack : g.stack = As.reverse ++ .ref b :: rest) (hW : 2 * g.monitorRoom + (rest.map fun v => v.category).sum ≤ 8) (hdg : decode cc g.pc = .ok (.invokevirtual index, 3)) (hf : cells + mc ≤ R.cells ∧ slots + ms ≤ R.slots) :
    vx_Run p l e R s m args below meth c H locs cells slots mc ms g rest (Qc (Value.ref b :: As).toArray) XC free := by
  obtain ⟨⟨hrc, hrs, hfr, hlo, hws, hcw⟩, hcode, hini, hy, hlen, hl, hin, hse⟩ := cw
  have hK : vx_Back l R p e below s args y 3 8 (PreOf R mc ms Pc) (PostOf Qc mc ms free) (vx_Post XC mc ms free) := vx_backW (hh := hh) (bytes := bytes) (maxL := maxL) (ret := ret) hM hp.1 hrc hrs hfr hlo hws hcw (fun a' U hW => word_at hW (Or.inl (by first | rfl | simp [Cond.onTables, Cond.keeps, Cond.steady])) hini)
  obtain ⟨hx, hb, hml, ho, -⟩ := S
  obtain ⟨-, ⟨cellB, hcB, hoB, hclB⟩, hPc⟩ := hp
  intro T hT X
  rcases vx_callVX X hx (C := C) (hh := hh) (bytes := bytes) (maxL := maxL) (ret := ret) ho hl hin hse hcode hy hK (by rw [hT]; exact hcB) hoB hclB hg (hsize.trans hml.symm) (argsL := As) (rest := rest) (fun sig h => hn.trans (hlen sig h)) hstack hW (by rw [hb]; exact hdg)
    (fun vm₁ hW₁ => ⟨hf.1, hf.2, hPc (T.setVm vm₁) hT hW₁⟩) with ⟨v, vm₁, ⟨U', l2, c2, s2⟩, hW₁, X', ⟨g', mk, t, L, e1, e2, hq, h1, hL, h2, h3⟩, st⟩ | ⟨q, vm₁, ⟨U', l2, c2, s2⟩, hW₁, X', ⟨g', mk, t, L, E, ce, e1, e2, hq, hce, hcv, hcl, h1, hL, h2, h3⟩, st⟩
  · dsimp only [Pt.U, Pt.locs, Pt.cells, Pt.slots] at X' e1 e2 h1 h2 h3 st
    subst h1; subst h2; subst h3
    exact Or.inl ⟨v, (T.setVm vm₁).calling g' mk (Value.ref b :: As).toArray, t, U', L, hT, X', hL, e1, e2, hq, st⟩
  · dsimp only [Pt.U, Pt.locs, Pt.cells, Pt.slots] at X' e1 e2 h1 h2 h3 st hcl
    subst h1; subst h2; subst h3
    exact Or.inr ⟨q, (T.setVm vm₁).calling g' mk (Value.ref b :: As).toArray, t, U', L, E, ce, hT, X', hL, e1, e2, hq, hce, hcv, vx_cls hW₁ hcl, st⟩
theorem vx_runSX {hh : List (Nat × Nat × Nat × Nat)} (S : CallFix p m c cc nL s args Ts own) (hM : vx_Met l y ws rm Pc Qc XC mc ms free) (cw : vx_CSW R s args own index y bytes maxL ret hh ws rm mc ms n) (hp : PreS s H Pc As)
    (hg : g.method = m) (hn : As.length = n) (hsize : g.locals.size = nL) (hstack : g.stack = As.reverse ++ rest) (hW : 2 * g.monitorRoom + (rest.map fun v => v.category).sum ≤ 8) (hdg : decode cc g.pc = .ok (.invokestatic index, 3)) (hf : cells + mc ≤ R.cells ∧ slots + ms ≤ R.slots) :
    vx_Run p l e R s m args below meth c H locs cells slots mc ms g rest (Qc As.toArray) XC free := by
  obtain ⟨⟨hrc, hrs, hfr, hlo, hws, hcw⟩, hcode, hini, hy, hlen, hl, hstt⟩ := cw
  have hK : vx_Back l R p e below s args y 3 8 (PreOf R mc ms Pc) (PostOf Qc mc ms free) (vx_Post XC mc ms free) := vx_backW (hh := hh) (bytes := bytes) (maxL := maxL) (ret := ret) hM hp.1 hrc hrs hfr hlo hws hcw (fun a' U hW => word_at hW (Or.inl (by first | rfl | simp [Cond.onTables, Cond.keeps, Cond.steady])) hini)
  obtain ⟨hx, hb, hml, ho, -⟩ := S
  intro T hT X
  rcases vx_callSX X hx (hh := hh) (bytes := bytes) (maxL := maxL) (ret := ret) ho hl hstt hini hcode hy hK hg (hsize.trans hml.symm) (argsL := As) (rest := rest) (fun sig h => hn.trans (hlen sig h)) hstack hW (by rw [hb]; exact hdg)
    (fun vm₁ hW₁ => ⟨hf.1, hf.2, hp.2 (T.setVm vm₁) hT hW₁⟩) with ⟨v, vm₁, ⟨U', l2, c2, s2⟩, hW₁, X', ⟨g', mk, t, L, e1, e2, hq, h1, hL, h2, h3⟩, st⟩ | ⟨q, vm₁, ⟨U', l2, c2, s2⟩, hW₁, X', ⟨g', mk, t, L, E, ce, e1, e2, hq, hce, hcv, hcl, h1, hL, h2, h3⟩, st⟩
  · dsimp only [Pt.U, Pt.locs, Pt.cells, Pt.slots] at X' e1 e2 h1 h2 h3 st
    subst h1; subst h2; subst h3
    exact Or.inl ⟨v, (T.setVm vm₁).calling g' mk As.toArray, t, U', L, hT, X', hL, e1, e2, hq, st⟩
  · dsimp only [Pt.U, Pt.locs, Pt.cells, Pt.slots] at X' e1 e2 h1 h2 h3 st hcl
    subst h1; subst h2; subst h3
    exact Or.inr ⟨q, (T.setVm vm₁).calling g' mk As.toArray, t, U', L, E, ce, hT, X', hL, e1, e2, hq, hce, hcv, vx_cls hW₁ hcl, st⟩
end
end VXH
theorem vx_ofWH {l : Launch} {y : MethodName} {ws ws' : List Cond} {rm : Room} {Pc : Array Value → State → Prop} {Qc : Array Value → State → Outcome → State → Prop} {XC : String → State → State → Prop} {mc ms : Nat} {free : Addr → Prop} {cc : ByteArray} {maxL : Nat} {ret : Option FieldType} {hh : List (Nat × Nat × Nat × Nat)}
    (hy : plainName y.cls = true) (hw : ws = Cond.codeWith y cc maxL ret hh :: ws')
    (body : ∀ p e s m args below meth c s₁, BodyLoose p l y (headSpec ws rm) cc maxL ret e s m args below meth c s₁ → c.maxLocals = maxL → Pc args s →
      W p l e (headSpec ws rm).room s m args below meth c s.heap [] 0 0 (vx_MQ below Qc XC args s mc ms free) (entryFrame m args maxL)) : vx_Met l y ws rm Pc Qc XC mc ms free := by
  refine MetFree.of_bodyS (code := cc) (maxLocals := maxL) (ret := ret) hy ?_ ?_
  · intro args s m h hn
    obtain ⟨m9, meth, c, hn9, h1, h2, h3, h4, -, h5, h6, -⟩ := Cond.codeWith_spec (atoms_spec (ws := ws) h _ (by rw [hw]; exact List.mem_cons_self))
    cases hn.symm.trans hn9
    exact ⟨meth, c, h1, h2, h3, h4, h5, h6⟩
  · intro p e s m args below meth c s₁ B hml hP _
    have hh0 : s₁.heap = s.heap := by rw [B.state]; rfl
    obtain ⟨t, a1, o, b1, b2, b3⟩ := body p e s m args below meth c s₁ B hml hP s₁ hh0 (Stand.of_body B)
    exact ⟨t, o, a1, b1, b2, b3⟩
/-! ===== END ===== -/
end
section
-- ===== PART A: goes FIRST, ahead of the names: the tables' words, and 'selects' of the private methods out of them =====
/-- a private method of a class that the tables say can be made, by its rows of tables_1 -/
def lw_okq (q : MethodName × Nat) : Prop := (q.1.cls ≠ "java/lang/invoke/MethodHandle" ∧ q.1.cls ≠ "java/lang/invoke/VarHandle") ∧ Cond.instantiable q.1.cls q.2 ∈ tables_1 ∧ Cond.privateMethod q.1 ∈ tables_1 ∧ Cond.instanceMethod q.1 ∈ tables_1
theorem lw_p0 : lw_okq (⟨"Granary", "needSite", "(I)V"⟩, 3) := ⟨⟨by decide +kernel, by decide +kernel⟩, List.mem_of_getElem? (i := 26) (by decide +kernel), List.mem_of_getElem? (i := 24) (by decide +kernel), List.mem_of_getElem? (i := 25) (by decide +kernel)⟩
theorem lw_p1 : lw_okq (⟨"java/lang/Throwable", "fillInStackTrace", "(I)Ljava/lang/Throwable;"⟩, 6) := ⟨⟨by decide +kernel, by decide +kernel⟩, List.mem_of_getElem? (i := 76) (by decide +kernel), List.mem_of_getElem? (i := 74) (by decide +kernel), List.mem_of_getElem? (i := 75) (by decide +kernel)⟩
theorem lw_p2 : lw_okq (⟨"Granary", "needItem", "(I)V"⟩, 3) := ⟨⟨by decide +kernel, by decide +kernel⟩, List.mem_of_getElem? (i := 26) (by decide +kernel), List.mem_of_getElem? (i := 146) (by decide +kernel), List.mem_of_getElem? (i := 147) (by decide +kernel)⟩
theorem lw_p3 : lw_okq (⟨"Granary$Stock", "hold", "(III)V"⟩, 9) := ⟨⟨by decide +kernel, by decide +kernel⟩, List.mem_of_getElem? (i := 232) (by decide +kernel), List.mem_of_getElem? (i := 230) (by decide +kernel), List.mem_of_getElem? (i := 231) (by decide +kernel)⟩
theorem lw_p4 : lw_okq (⟨"Granary$Stock", "queueOpenOrders", "()I"⟩, 9) := ⟨⟨by decide +kernel, by decide +kernel⟩, List.mem_of_getElem? (i := 232) (by decide +kernel), List.mem_of_getElem? (i := 251) (by decide +kernel), List.mem_of_getElem? (i := 252) (by decide +kernel)⟩
theorem lw_p5 : lw_okq (⟨"Granary$Stock", "wasteExpired", "()V"⟩, 9) := ⟨⟨by decide +kernel, by decide +kernel⟩, List.mem_of_getElem? (i := 232) (by decide +kernel), List.mem_of_getElem? (i := 272) (by decide +kernel), List.mem_of_getElem? (i := 273) (by decide +kernel)⟩
theorem lw_p6 : lw_okq (⟨"Granary$Stock", "waste", "(II)V"⟩, 9) := ⟨⟨by decide +kernel, by decide +kernel⟩, List.mem_of_getElem? (i := 232) (by decide +kernel), List.mem_of_getElem? (i := 276) (by decide +kernel), List.mem_of_getElem? (i := 277) (by decide +kernel)⟩
theorem lw_p7 : lw_okq (⟨"Granary$Stock", "takeArrivals", "()V"⟩, 9) := ⟨⟨by decide +kernel, by decide +kernel⟩, List.mem_of_getElem? (i := 232) (by decide +kernel), List.mem_of_getElem? (i := 281) (by decide +kernel), List.mem_of_getElem? (i := 282) (by decide +kernel)⟩
theorem lw_p8 : lw_okq (⟨"Granary$Stock", "takeIn", "(I)V"⟩, 9) := ⟨⟨by decide +kernel, by decide +kernel⟩, List.mem_of_getElem? (i := 232) (by decide +kernel), List.mem_of_getElem? (i := 285) (by decide +kernel), List.mem_of_getElem? (i := 286) (by decide +kernel)⟩
theorem lw_p9 : lw_okq (⟨"Granary$Stock", "serveDueOrders", "()V"⟩, 9) := ⟨⟨by decide +kernel, by decide +kernel⟩, List.mem_of_getElem? (i := 232) (by decide +kernel), List.mem_of_getElem? (i := 292) (by decide +kernel), List.mem_of_getElem? (i := 293) (by decide +kernel)⟩
theorem lw_p10 : lw_okq (⟨"Granary$Stock", "reviewAll", "()V"⟩, 9) := ⟨⟨by decide +kernel, by decide +kernel⟩, List.mem_of_getElem? (i := 232) (by decide +kernel), List.mem_of_getElem? (i := 301) (by decide +kernel), List.mem_of_getElem? (i := 302) (by decide +kernel)⟩
theorem lw_p11 : lw_okq (⟨"Granary$Stock", "review", "(II)V"⟩, 9) := ⟨⟨by decide +kernel, by decide +kernel⟩, List.mem_of_getElem? (i := 232) (by decide +kernel), List.mem_of_getElem? (i := 305) (by decide +kernel), List.mem_of_getElem? (i := 306) (by decide +kernel)⟩
theorem lw_p12 : lw_okq (⟨"Granary$Stock", "orderOutside", "(IIII)V"⟩, 9) := ⟨⟨by decide +kernel, by decide +kernel⟩, List.mem_of_getElem? (i := 232) (by decide +kernel), List.mem_of_getElem? (i := 340) (by decide +kernel), List.mem_of_getElem? (i := 341) (by decide +kernel)⟩
theorem lw_p13 : lw_okq (⟨"Granary$Stock", "countHolding", "()V"⟩, 9) := ⟨⟨by decide +kernel, by decide +kernel⟩, List.mem_of_getElem? (i := 232) (by decide +kernel), List.mem_of_getElem? (i := 358) (by decide +kernel), List.mem_of_getElem? (i := 359) (by decide +kernel)⟩
theorem lw_p14 : lw_okq (⟨"Granary$Plan", "findWays", "()V"⟩, 7) := ⟨⟨by decide +kernel, by decide +kernel⟩, List.mem_of_getElem? (i := 398) (by decide +kernel), List.mem_of_getElem? (i := 396) (by decide +kernel), List.mem_of_getElem? (i := 397) (by decide +kernel)⟩
theorem lw_p15 : lw_okq (⟨"Granary$Plan", "step", "(II)V"⟩, 7) := ⟨⟨by decide +kernel, by decide +kernel⟩, List.mem_of_getElem? (i := 398) (by decide +kernel), List.mem_of_getElem? (i := 402) (by decide +kernel), List.mem_of_getElem? (i := 403) (by decide +kernel)⟩
def lw_privs_1 : List (MethodName × Nat) := [(⟨"Granary", "needSite", "(I)V"⟩, 3), (⟨"java/lang/Throwable", "fillInStackTrace", "(I)Ljava/lang/Throwable;"⟩, 6), (⟨"Granary", "needItem", "(I)V"⟩, 3), (⟨"Granary$Stock", "hold", "(III)V"⟩, 9), (⟨"Granary$Stock", "queueOpenOrders", "()I"⟩, 9), (⟨"Granary$Stock", "wasteExpired", "()V"⟩, 9), (⟨"Granary$Stock", "waste", "(II)V"⟩, 9), (⟨"Granary$Stock", "takeArrivals", "()V"⟩, 9), (⟨"Granary$Stock", "takeIn", "(I)V"⟩, 9), (⟨"Granary$Stock", "serveDueOrders", "()V"⟩, 9), (⟨"Granary$Stock", "reviewAll", "()V"⟩, 9), (⟨"Granary$Stock", "review", "(II)V"⟩, 9), (⟨"Granary$Stock", "orderOutside", "(IIII)V"⟩, 9), (⟨"Granary$Stock", "countHolding", "()V"⟩, 9), (⟨"Granary$Plan", "findWays", "()V"⟩, 7), (⟨"Granary$Plan", "step", "(II)V"⟩, 7)]
theorem lw_r1 : ∀ q ∈ lw_privs_1, lw_okq q := List.forall_mem_cons.mpr ⟨lw_p0, List.forall_mem_cons.mpr ⟨lw_p1, List.forall_mem_cons.mpr ⟨lw_p2, List.forall_mem_cons.mpr ⟨lw_p3, List.forall_mem_cons.mpr ⟨lw_p4, List.forall_mem_cons.mpr ⟨lw_p5, List.forall_mem_cons.mpr ⟨lw_p6, List.forall_mem_cons.mpr ⟨lw_p7, List.forall_mem_cons.mpr ⟨lw_p8, List.forall_mem_cons.mpr ⟨lw_p9, List.forall_mem_cons.mpr ⟨lw_p10, List.forall_mem_cons.mpr ⟨lw_p11, List.forall_mem_cons.mpr ⟨lw_p12, List.forall_mem_cons.mpr ⟨lw_p13, List.forall_mem_cons.mpr ⟨lw_p14, List.forall_mem_cons.mpr ⟨lw_p15, fun _ h => absurd h List.not_mem_nil⟩⟩⟩⟩⟩⟩⟩⟩⟩⟩⟩⟩⟩⟩⟩⟩
theorem lw_p16 : lw_okq (⟨"Granary$Plan", "cheapestEnd", "()I"⟩, 7) := ⟨⟨by decide +kernel, by decide +kernel⟩, List.mem_of_getElem? (i := 398) (by decide +kernel), List.mem_of_getElem? (i := 406) (by decide +kernel), List.mem_of_getElem? (i := 407) (by decide +kernel)⟩
theorem lw_p17 : lw_okq (⟨"Granary$Plan", "sendAlong", "(I)V"⟩, 7) := ⟨⟨by decide +kernel, by decide +kernel⟩, List.mem_of_getElem? (i := 398) (by decide +kernel), List.mem_of_getElem? (i := 410) (by decide +kernel), List.mem_of_getElem? (i := 411) (by decide +kernel)⟩
theorem lw_p18 : lw_okq (⟨"Granary", "needLot", "(I)V"⟩, 3) := ⟨⟨by decide +kernel, by decide +kernel⟩, List.mem_of_getElem? (i := 26) (by decide +kernel), List.mem_of_getElem? (i := 431) (by decide +kernel), List.mem_of_getElem? (i := 432) (by decide +kernel)⟩
theorem lw_p19 : lw_okq (⟨"Granary", "needOrder", "(I)V"⟩, 3) := ⟨⟨by decide +kernel, by decide +kernel⟩, List.mem_of_getElem? (i := 26) (by decide +kernel), List.mem_of_getElem? (i := 447) (by decide +kernel), List.mem_of_getElem? (i := 448) (by decide +kernel)⟩
theorem lw_p20 : lw_okq (⟨"Granary", "mixCounts", "(J)J"⟩, 3) := ⟨⟨by decide +kernel, by decide +kernel⟩, List.mem_of_getElem? (i := 26) (by decide +kernel), List.mem_of_getElem? (i := 550) (by decide +kernel), List.mem_of_getElem? (i := 551) (by decide +kernel)⟩
theorem lw_p21 : lw_okq (⟨"Granary", "mixLots", "(J)J"⟩, 3) := ⟨⟨by decide +kernel, by decide +kernel⟩, List.mem_of_getElem? (i := 26) (by decide +kernel), List.mem_of_getElem? (i := 558) (by decide +kernel), List.mem_of_getElem? (i := 559) (by decide +kernel)⟩
theorem lw_p22 : lw_okq (⟨"Granary", "mixOrders", "(J)J"⟩, 3) := ⟨⟨by decide +kernel, by decide +kernel⟩, List.mem_of_getElem? (i := 26) (by decide +kernel), List.mem_of_getElem? (i := 562) (by decide +kernel), List.mem_of_getElem? (i := 563) (by decide +kernel)⟩
theorem lw_p23 : lw_okq (⟨"Granary", "mixTransports", "(J)J"⟩, 3) := ⟨⟨by decide +kernel, by decide +kernel⟩, List.mem_of_getElem? (i := 26) (by decide +kernel), List.mem_of_getElem? (i := 567) (by decide +kernel), List.mem_of_getElem? (i := 568) (by decide +kernel)⟩
theorem lw_p24 : lw_okq (⟨"Granary", "mixRoutes", "(J)J"⟩, 3) := ⟨⟨by decide +kernel, by decide +kernel⟩, List.mem_of_getElem? (i := 26) (by decide +kernel), List.mem_of_getElem? (i := 575) (by decide +kernel), List.mem_of_getElem? (i := 576) (by decide +kernel)⟩
theorem lw_p25 : lw_okq (⟨"Granary", "mixStocks", "(J)J"⟩, 3) := ⟨⟨by decide +kernel, by decide +kernel⟩, List.mem_of_getElem? (i := 26) (by decide +kernel), List.mem_of_getElem? (i := 579) (by decide +kernel), List.mem_of_getElem? (i := 580) (by decide +kernel)⟩
theorem lw_p26 : lw_okq (⟨"Granary", "mixPlans", "(J)J"⟩, 3) := ⟨⟨by decide +kernel, by decide +kernel⟩, List.mem_of_getElem? (i := 26) (by decide +kernel), List.mem_of_getElem? (i := 592) (by decide +kernel), List.mem_of_getElem? (i := 593) (by decide +kernel)⟩
def lw_privs_2 : List (MethodName × Nat) := [(⟨"Granary$Plan", "cheapestEnd", "()I"⟩, 7), (⟨"Granary$Plan", "sendAlong", "(I)V"⟩, 7), (⟨"Granary", "needLot", "(I)V"⟩, 3), (⟨"Granary", "needOrder", "(I)V"⟩, 3), (⟨"Granary", "mixCounts", "(J)J"⟩, 3), (⟨"Granary", "mixLots", "(J)J"⟩, 3), (⟨"Granary", "mixOrders", "(J)J"⟩, 3), (⟨"Granary", "mixTransports", "(J)J"⟩, 3), (⟨"Granary", "mixRoutes", "(J)J"⟩, 3), (⟨"Granary", "mixStocks", "(J)J"⟩, 3), (⟨"Granary", "mixPlans", "(J)J"⟩, 3)]
theorem lw_r2 : ∀ q ∈ lw_privs_2, lw_okq q := List.forall_mem_cons.mpr ⟨lw_p16, List.forall_mem_cons.mpr ⟨lw_p17, List.forall_mem_cons.mpr ⟨lw_p18, List.forall_mem_cons.mpr ⟨lw_p19, List.forall_mem_cons.mpr ⟨lw_p20, List.forall_mem_cons.mpr ⟨lw_p21, List.forall_mem_cons.mpr ⟨lw_p22, List.forall_mem_cons.mpr ⟨lw_p23, List.forall_mem_cons.mpr ⟨lw_p24, List.forall_mem_cons.mpr ⟨lw_p25, List.forall_mem_cons.mpr ⟨lw_p26, fun _ h => absurd h List.not_mem_nil⟩⟩⟩⟩⟩⟩⟩⟩⟩⟩⟩
def lw_privs : List (MethodName × Nat) := lw_privs_1 ++ (lw_privs_2)
def lw_tbl : List Cond := k2_sels lw_privs ++ tables_1
theorem lw_privs_ok : ∀ q ∈ lw_privs, lw_okq q := by
  show ∀ q ∈ lw_privs_1 ++ (lw_privs_2), lw_okq q
  exact List.forall_mem_append.mpr ⟨lw_r1, lw_r2⟩
end
section
theorem goodIn_q {big : List Cond} (ws : List Cond) (ps qs : List Nat) (hp : ws.filter k2_isCode = ps.filterMap (fun i => big[i]?)) (hq : ws.filter (fun w => !k2_isCode w) = qs.filterMap (fun i => big[i]?)) (h : ws.all goodWord = true) : GoodIn big ws := by
  intro w hw
  have h1 := List.all_eq_true.mp h w hw
  by_cases hc : k2_isCode w = true
  · have h2 : w ∈ ws.filter k2_isCode := List.mem_filter.mpr ⟨hw, hc⟩
    rw [hp] at h2
    obtain ⟨i, -, hi⟩ := List.mem_filterMap.mp h2
    exact ⟨List.mem_of_getElem? hi, good_of_word h1⟩
  · have h2 : w ∈ ws.filter (fun w => !k2_isCode w) := List.mem_filter.mpr ⟨hw, by simpa using hc⟩
    rw [hq] at h2
    obtain ⟨i, -, hi⟩ := List.mem_filterMap.mp h2
    exact ⟨List.mem_of_getElem? hi, good_of_word h1⟩
def RX0 : String := "Granary$Items"
def TX0 : u_T := fun k => match k with
  | 0 => ("Granary$Items", "count", "I", false)
  | 1 => ("Granary$Items", "life", "[I", true)
  | 2 => ("Granary$Items", "price", "[I", true)
  | 3 => ("Granary$Items", "pack", "[I", true)
  | _ => ("Granary$Items", "earned", "[I", true)
def yX0_init : MethodName := ⟨RX0, "<init>", "()V"⟩
def RX1 : String := "Granary$Lots"
def TX1 : u_T := fun k => match k with
  | 0 => ("Granary$Lots", "count", "I", false)
  | 1 => ("Granary$Lots", "item", "[I", true)
  | 2 => ("Granary$Lots", "site", "[I", true)
  | 3 => ("Granary$Lots", "units", "[I", true)
  | 4 => ("Granary$Lots", "reserved", "[I", true)
  | _ => ("Granary$Lots", "last", "[I", true)
def yX1_init : MethodName := ⟨RX1, "<init>", "()V"⟩
def RX2 : String := "Granary$Orders"
def TX2 : u_T := fun k => match k with
  | 0 => ("Granary$Orders", "count", "I", false)
  | 1 => ("Granary$Orders", "item", "[I", true)
  | 2 => ("Granary$Orders", "site", "[I", true)
  | 3 => ("Granary$Orders", "units", "[I", true)
  | 4 => ("Granary$Orders", "reserved", "[I", true)
  | 5 => ("Granary$Orders", "due", "[I", true)
  | 6 => ("Granary$Orders", "rank", "[I", true)
  | 7 => ("Granary$Orders", "keep", "[I", true)
  | 8 => ("Granary$Orders", "state", "[I", true)
  | 9 => ("Granary$Orders", "shipDay", "[I", true)
  | _ => ("Granary$Orders", "held", "[I", true)
def yX2_init : MethodName := ⟨RX2, "<init>", "()V"⟩
def RX3 : String := "Granary$Plan"
def TX3 : u_T := fun k => match k with
  | 0 => ("Granary$Plan", "sites", "I", false)
  | 1 => ("Granary$Plan", "spare", "[I", true)
  | 2 => ("Granary$Plan", "lack", "[I", true)
  | 3 => ("Granary$Plan", "cost", "[J", true)
  | 4 => ("Granary$Plan", "reach", "[J", true)
  | 5 => ("Granary$Plan", "ahead", "[I", true)
  | _ => ("Granary$Plan", "units", "[I", true)
def yX3_init : MethodName := ⟨RX3, "<init>", "()V"⟩
def RX4 : String := "Granary$Policies"
def TX4 : u_T := fun k => match k with
  | 0 => ("Granary$Policies", "set", "[Z", true)
  | 1 => ("Granary$Policies", "point", "[I", true)
  | 2 => ("Granary$Policies", "top", "[I", true)
  | 3 => ("Granary$Policies", "source", "[I", true)
  | _ => ("Granary$Policies", "lead", "[I", true)
def yX4_init : MethodName := ⟨RX4, "<init>", "()V"⟩
def RX5 : String := "Granary$Sites"
def TX5 : u_T := fun k => match k with
  | 0 => ("Granary$Sites", "count", "I", false)
  | 1 => ("Granary$Sites", "room", "[I", true)
  | _ => ("Granary$Sites", "days", "[I", true)
def yX5_init : MethodName := ⟨RX5, "<init>", "()V"⟩
def RX6 : String := "Granary$Stock"
def TX6 : u_T := fun k => match k with
  | 0 => ("Granary$Stock", "day", "I", false)
  | 1 => ("Granary$Stock", "items", "LGranary$Items;", true)
  | 2 => ("Granary$Stock", "sites", "LGranary$Sites;", true)
  | 3 => ("Granary$Stock", "policies", "LGranary$Policies;", true)
  | 4 => ("Granary$Stock", "lots", "LGranary$Lots;", true)
  | 5 => ("Granary$Stock", "orders", "LGranary$Orders;", true)
  | 6 => ("Granary$Stock", "transports", "LGranary$Transports;", true)
  | 7 => ("Granary$Stock", "account", "[I", true)
  | _ => ("Granary$Stock", "queue", "[I", true)
def yX6_init : MethodName := ⟨RX6, "<init>", "()V"⟩
def RX7 : String := "Granary$Transports"
def TX7 : u_T := fun k => match k with
  | 0 => ("Granary$Transports", "count", "I", false)
  | 1 => ("Granary$Transports", "item", "[I", true)
  | 2 => ("Granary$Transports", "site", "[I", true)
  | 3 => ("Granary$Transports", "units", "[I", true)
  | 4 => ("Granary$Transports", "arrival", "[I", true)
  | 5 => ("Granary$Transports", "last", "[I", true)
  | _ => ("Granary$Transports", "moving", "[I", true)
def yX7_init : MethodName := ⟨RX7, "<init>", "()V"⟩
def RX8 : String := "Granary"
def TX8 : u_T := fun k => match k with
  | 0 => ("Granary", "now", "LGranary$Stock;", true)
  | 1 => ("Granary", "later", "LGranary$Stock;", true)
  | _ => ("Granary", "plan", "LGranary$Plan;", true)
def yX8_pair : MethodName := ⟨RX8, "pair", "(II)I"⟩
def RX9 : String := "GranaryLaw$Store"
def TX9 : u_T := fun k => match k with
  | 0 => ("GranaryLaw$Store", "m", "LGranary;", true)
  | 1 => ("GranaryLaw$Store", "s", "[I", true)
  | 2 => ("GranaryLaw$Store", "draws", "I", false)
  | 3 => ("GranaryLaw$Store", "items", "I", false)
  | 4 => ("GranaryLaw$Store", "price", "[I", true)
  | 5 => ("GranaryLaw$Store", "life", "[I", true)
  | 6 => ("GranaryLaw$Store", "pack", "[I", true)
  | 7 => ("GranaryLaw$Store", "route", "[I", true)
  | 8 => ("GranaryLaw$Store", "policy", "[[I", true)
  | 9 => ("GranaryLaw$Store", "transports", "I", false)
  | 10 => ("GranaryLaw$Store", "transport", "[[I", true)
  | 11 => ("GranaryLaw$Store", "sites", "I", false)
  | 12 => ("GranaryLaw$Store", "room", "[I", true)
  | 13 => ("GranaryLaw$Store", "day", "I", false)
  | 14 => ("GranaryLaw$Store", "lots", "I", false)
  | 15 => ("GranaryLaw$Store", "lot", "[[I", true)
  | 16 => ("GranaryLaw$Store", "orders", "I", false)
  | 17 => ("GranaryLaw$Store", "order", "[[I", true)
  | 18 => ("GranaryLaw$Store", "reserved", "[[I", true)
  | 19 => ("GranaryLaw$Store", "earned", "I", false)
  | 20 => ("GranaryLaw$Store", "spent", "I", false)
  | 21 => ("GranaryLaw$Store", "waste", "I", false)
  | 22 => ("GranaryLaw$Store", "lacking", "I", false)
  | _ => ("GranaryLaw$Store", "holding", "I", false)
def RL : String := "GranaryLaw"
def yL_below : MethodName := ⟨RL, "below", "(II)I"⟩
def yL_cell : MethodName := ⟨RL, "cell", "([II)I"⟩
abbrev vwCl : List vw_C := [(RX0, TX0, 5), (RX1, TX1, 6), (RX2, TX2, 11), (RX3, TX3, 7), (RX4, TX4, 5), (RX5, TX5, 3), (RX6, TX6, 9), (RX7, TX7, 7), (RX8, TX8, 3), (RX9, TX9, 24)]
end
section
/-- the links between nest mates -/
def NX (U : State) : Prop := va_Nw (.methodLinkNest RX5 26 yX8_pair "Granary") U ∧ va_Nw (.methodLinkNest RX4 28 yX8_pair "Granary") U ∧ va_Nw (.methodLinkNest RX6 117 yX8_pair "Granary") U ∧ va_Nw (.methodLinkNest RX3 52 yX8_pair "Granary") U ∧ va_Nw (.methodLinkNest RX8 9 yX6_init "Granary") U ∧ va_Nw (.methodLinkNest RX6 11 yX0_init "Granary") U ∧ va_Nw (.methodLinkNest RX6 20 yX5_init "Granary") U ∧ va_Nw (.methodLinkNest RX6 27 yX4_init "Granary") U ∧ va_Nw (.methodLinkNest RX6 34 yX1_init "Granary") U ∧ va_Nw (.methodLinkNest RX6 41 yX2_init "Granary") U ∧ va_Nw (.methodLinkNest RX6 48 yX7_init "Granary") U ∧ va_Nw (.methodLinkNest RX8 21 yX3_init "Granary") U ∧ va_Nw (.methodLinkNest RX9 57 yL_cell "GranaryLaw") U ∧ va_Nw (.methodLinkNest RX9 63 yL_below "GranaryLaw") U
theorem NX.warm {s U : State} (hW : s.WarmedH U.vm) (h : NX s) : NX U := by
  obtain ⟨h0, h1, h2, h3, h4, h5, h6, h7, h8, h9, h10, h11, h12, h13⟩ := h
  exact ⟨va_Nw.warmM hW h0, va_Nw.warmM hW h1, va_Nw.warmM hW h2, va_Nw.warmM hW h3, va_Nw.warmM hW h4, va_Nw.warmM hW h5, va_Nw.warmM hW h6, va_Nw.warmM hW h7, va_Nw.warmM hW h8, va_Nw.warmM hW h9, va_Nw.warmM hW h10, va_Nw.warmM hW h11, va_Nw.warmM hW h12, va_Nw.warmM hW h13⟩
/-- what every contract takes of its state: lo is below all that is of this run -/
def CX (lo : Nat) (D : va_G) (cI cZ cJ : ClassId) (U : State) : Prop := lo ≤ U.heap.size ∧ va_K D vwCl [(cI, .int), (cZ, .boolean), (cJ, .long)] U ∧ NX U
theorem CX.at {lo : Nat} {D : va_G} {cI cZ cJ : ClassId} {s U : State} {H : Heap} {A : Nat → Prop} {locs : List Loc} (h : CX lo D cI cZ cJ s) (hS : va_S A s.heap H locs) (hAlo : ∀ q, A q → lo ≤ q) (hU : U.heap = H) (hW : s.WarmedH U.vm) : CX lo D cI cZ cJ U :=
  ⟨by rw [hU]; exact Nat.le_trans h.1 hS.1, va_K.moved hW.alike h.2.1, h.2.2.warm hW⟩
theorem CX.call {lo : Nat} {D : va_G} {cI cZ cJ : ClassId} {U : State} (h : CX lo D cI cZ cJ U) (g : JFrame) (mk : MethodId) (a : Array Value) : CX lo D cI cZ cJ (U.calling g mk a) :=
  h.at (A := fun _ => False) (locs := []) (H := U.heap) va_S.rf (fun _ h => h.elim) rfl (State.WarmedH.refl U)
theorem CX.K {lo : Nat} {D : va_G} {cI cZ cJ : ClassId} {U : State} (h : CX lo D cI cZ cJ U) : va_K D vwCl [(cI, .int), (cZ, .boolean), (cJ, .long)] U := h.2.1
/-- a contract's start: these arguments, a heap of sz cells, the cells ws among those from lo on -/
def Pre (lo : Nat) (D : va_G) (cI cZ cJ : ClassId) (av : List Value) (sz : Nat) (ws : va_W) : Array Value → State → Prop := va_Pc av (fun U => U.heap.size = sz ∧ va_P D vwCl ws U.heap ∧ va_D (fun q => lo ≤ q) ws ∧ CX lo D cI cZ cJ U)
theorem Pre.blind {lo : Nat} {D : va_G} {cI cZ cJ : ClassId} {av : List Value} {sz : Nat} {ws : va_W} : FrameBlind (Pre lo D cI cZ cJ av sz ws) := fun a _ g mk q => ⟨q.1, q.2.1, q.2.2.1, q.2.2.2.1, q.2.2.2.2.call g mk a⟩
theorem Pre.mk {lo : Nat} {D : va_G} {cI cZ cJ : ClassId} {av : List Value} {wc : va_W} {s : State} {H : Heap} {A : Nat → Prop} {locs : List Loc} (hP : va_P D vwCl wc H) (hD : va_D (fun q => lo ≤ q) wc) (hC : CX lo D cI cZ cJ s) (hS : va_S A s.heap H locs) (hAlo : ∀ q, A q → lo ≤ q) : ∀ U : State, U.heap = H → s.WarmedH U.vm → Pre lo D cI cZ cJ av H.size wc av.toArray U :=
  fun U hU hW => ⟨rfl, by rw [hU], by rw [hU]; exact hP, hD, hC.at hS hAlo hU hW⟩
theorem va_A_lo {lo sz : Nat} {ws : va_W} (hD : va_D (fun q => lo ≤ q) ws) (h : lo ≤ sz) : ∀ q, va_A ws sz q → lo ≤ q := fun q hq => by
  rcases hq with ⟨k, e, hk⟩ | hq
  · exact hD.2 k _ hk
  · exact Nat.le_trans h hq
theorem va_rest {A0 : Nat → Prop} {D : va_G} {cl : List vw_C} {ws wc wr : va_W} {H H1 : Heap} (hP : va_P D cl ws H) (hD : va_D A0 ws) (isC isR : List Nat) (hC : isC.map (fun i => ws[i]?) = wc.map some) (hR : isR.map (fun i => ws[i]?) = wr.map some) (hn : va_nd isR = true) (hdis : ∀ i ∈ isR, i ∉ isC)
    (hk : ∀ q : Nat, q < H.size → ¬ va_A wc H.size q → H1[q]? = H[q]?) (hF : ∀ q, va_A wc H.size q → A0 q) : va_P D cl wr H1 ∧ va_D A0 wr := by
  have h := va_join (w1 := []) hP hD isC isR hC hR hn hdis hk hF (fun k q h => by simp at h) ⟨fun i j p q h => by simp at h, fun k q h => by simp at h⟩
  rwa [List.append_nil] at h
theorem CX.nestX5_26 {lo : Nat} {D : va_G} {cI cZ cJ : ClassId} {U : State} (h : CX lo D cI cZ cJ U) : va_Nw (.methodLinkNest RX5 26 yX8_pair "Granary") U := h.2.2.1
theorem CX.nestX4_28 {lo : Nat} {D : va_G} {cI cZ cJ : ClassId} {U : State} (h : CX lo D cI cZ cJ U) : va_Nw (.methodLinkNest RX4 28 yX8_pair "Granary") U := h.2.2.2.1
theorem CX.nestX6_117 {lo : Nat} {D : va_G} {cI cZ cJ : ClassId} {U : State} (h : CX lo D cI cZ cJ U) : va_Nw (.methodLinkNest RX6 117 yX8_pair "Granary") U := h.2.2.2.2.1
theorem CX.nestX3_52 {lo : Nat} {D : va_G} {cI cZ cJ : ClassId} {U : State} (h : CX lo D cI cZ cJ U) : va_Nw (.methodLinkNest RX3 52 yX8_pair "Granary") U := h.2.2.2.2.2.1
theorem CX.nestX8_9 {lo : Nat} {D : va_G} {cI cZ cJ : ClassId} {U : State} (h : CX lo D cI cZ cJ U) : va_Nw (.methodLinkNest RX8 9 yX6_init "Granary") U := h.2.2.2.2.2.2.1
theorem CX.nestX6_11 {lo : Nat} {D : va_G} {cI cZ cJ : ClassId} {U : State} (h : CX lo D cI cZ cJ U) : va_Nw (.methodLinkNest RX6 11 yX0_init "Granary") U := h.2.2.2.2.2.2.2.1
theorem CX.nestX6_20 {lo : Nat} {D : va_G} {cI cZ cJ : ClassId} {U : State} (h : CX lo D cI cZ cJ U) : va_Nw (.methodLinkNest RX6 20 yX5_init "Granary") U := h.2.2.2.2.2.2.2.2.1
theorem CX.nestX6_27 {lo : Nat} {D : va_G} {cI cZ cJ : ClassId} {U : State} (h : CX lo D cI cZ cJ U) : va_Nw (.methodLinkNest RX6 27 yX4_init "Granary") U := h.2.2.2.2.2.2.2.2.2.1
theorem CX.nestX6_34 {lo : Nat} {D : va_G} {cI cZ cJ : ClassId} {U : State} (h : CX lo D cI cZ cJ U) : va_Nw (.methodLinkNest RX6 34 yX1_init "Granary") U := h.2.2.2.2.2.2.2.2.2.2.1
theorem CX.nestX6_41 {lo : Nat} {D : va_G} {cI cZ cJ : ClassId} {U : State} (h : CX lo D cI cZ cJ U) : va_Nw (.methodLinkNest RX6 41 yX2_init "Granary") U := h.2.2.2.2.2.2.2.2.2.2.2.1
theorem CX.nestX6_48 {lo : Nat} {D : va_G} {cI cZ cJ : ClassId} {U : State} (h : CX lo D cI cZ cJ U) : va_Nw (.methodLinkNest RX6 48 yX7_init "Granary") U := h.2.2.2.2.2.2.2.2.2.2.2.2.1
theorem CX.nestX8_21 {lo : Nat} {D : va_G} {cI cZ cJ : ClassId} {U : State} (h : CX lo D cI cZ cJ U) : va_Nw (.methodLinkNest RX8 21 yX3_init "Granary") U := h.2.2.2.2.2.2.2.2.2.2.2.2.2.1
theorem CX.nestX9_57 {lo : Nat} {D : va_G} {cI cZ cJ : ClassId} {U : State} (h : CX lo D cI cZ cJ U) : va_Nw (.methodLinkNest RX9 57 yL_cell "GranaryLaw") U := h.2.2.2.2.2.2.2.2.2.2.2.2.2.2.1
theorem CX.nestX9_63 {lo : Nat} {D : va_G} {cI cZ cJ : ClassId} {U : State} (h : CX lo D cI cZ cJ U) : va_Nw (.methodLinkNest RX9 63 yL_below "GranaryLaw") U := h.2.2.2.2.2.2.2.2.2.2.2.2.2.2.2
section TO
variable {p : Program} {l : Launch} {e : Env} {R : Room} {s : State} {m : MethodId} {args : Array Value} {below : List Frame} {meth : Method} {c : Code} {H : Heap} {locs : List Loc} {cells slots : Nat} {Q : State → Prop} {pc : Nat} {ls : Array Slot} {rest : List Value}
theorem lv_toi {x y : Int32} (h : x = y) (k : W p l e R s m args below meth c H locs cells slots Q (F0 m pc ls (.int y :: rest))) : W p l e R s m args below meth c H locs cells slots Q (F0 m pc ls (.int x :: rest)) := by rw [h]; exact k
theorem lv_tol {x y : Int64} (h : x = y) (k : W p l e R s m args below meth c H locs cells slots Q (F0 m pc ls (.long y :: rest))) : W p l e R s m args below meth c H locs cells slots Q (F0 m pc ls (.long x :: rest)) := by rw [h]; exact k
theorem na_i {cc : ByteArray} {D : va_G} {cI cZ cJ : ClassId} {A : Nat → Prop} {H0 : Heap} {ws : va_W} (hexec : p.tables.exec = Jvm.exec) (hb : c.code = cc) (harr : (Cond.arrayClass .int).before args s = true) (hK : va_K D vwCl [(cI, .int), (cZ, .boolean), (cJ, .long)] s) (hP : va_P D vwCl ws H) (hD : va_D A ws) (hS : va_S A H0 H locs) (hA : ∀ q, H0.size ≤ q → A q)
    {n : Int32} {N' : Nat} (hn : ¬ n < 0) (hN : n.toNatClampNeg = N') (hbytes : N' * 4 ≤ 536870912) (hcells : cells + 1 ≤ R.cells) (hslots : slots + N' ≤ R.slots) (hdg : decode cc pc = .ok (.newarray .int, 2))
    (kk : ∀ (q : Nat) (H1 : Heap), va_P D vwCl (ws ++ [(q, .inl (cI, N', .inl (fun _ => 0)))]) H1 → va_D A (ws ++ [(q, .inl (cI, N', .inl (fun _ => 0)))]) → va_S A H0 H1 locs →
      W p l e R s m args below meth c H1 locs (cells + 1) (slots + N') Q (F0 m (pc + 2) ls (.ref q :: rest))) : W p l e R s m args below meth c H locs cells slots Q (F0 m pc ls (.int n :: rest)) := by
  refine va_newa (atype := .int) (ty := .int) (a0 := (N', .inl (fun _ => 0))) hexec hb harr rfl hK hP hD hS hA (fun _ => rfl) hn hN hbytes hcells hslots hdg (fun q cA H1 hK1 hP1 hD1 hS1 => ?_)
  have e1 := (hK1.2 3 _ rfl).2
  have e0 := (hK.2 0 _ rfl).2
  have e : cA = cI := Option.some.inj (e1.symm.trans e0)
  subst e
  exact kk q H1 hP1 hD1 hS1
theorem na_z {cc : ByteArray} {D : va_G} {cI cZ cJ : ClassId} {A : Nat → Prop} {H0 : Heap} {ws : va_W} (hexec : p.tables.exec = Jvm.exec) (hb : c.code = cc) (harr : (Cond.arrayClass .boolean).before args s = true) (hK : va_K D vwCl [(cI, .int), (cZ, .boolean), (cJ, .long)] s) (hP : va_P D vwCl ws H) (hD : va_D A ws) (hS : va_S A H0 H locs) (hA : ∀ q, H0.size ≤ q → A q)
    {n : Int32} {N' : Nat} (hn : ¬ n < 0) (hN : n.toNatClampNeg = N') (hbytes : N' * 1 ≤ 536870912) (hcells : cells + 1 ≤ R.cells) (hslots : slots + N' ≤ R.slots) (hdg : decode cc pc = .ok (.newarray .boolean, 2))
    (kk : ∀ (q : Nat) (H1 : Heap), va_P D vwCl (ws ++ [(q, .inl (cZ, N', .inl (fun _ => 0)))]) H1 → va_D A (ws ++ [(q, .inl (cZ, N', .inl (fun _ => 0)))]) → va_S A H0 H1 locs →
      W p l e R s m args below meth c H1 locs (cells + 1) (slots + N') Q (F0 m (pc + 2) ls (.ref q :: rest))) : W p l e R s m args below meth c H locs cells slots Q (F0 m pc ls (.int n :: rest)) := by
  refine va_newa (atype := .boolean) (ty := .boolean) (a0 := (N', .inl (fun _ => 0))) hexec hb harr rfl hK hP hD hS hA (fun _ => rfl) hn hN hbytes hcells hslots hdg (fun q cA H1 hK1 hP1 hD1 hS1 => ?_)
  have e1 := (hK1.2 3 _ rfl).2
  have e0 := (hK.2 1 _ rfl).2
  have e : cA = cZ := Option.some.inj (e1.symm.trans e0)
  subst e
  exact kk q H1 hP1 hD1 hS1
theorem na_l {cc : ByteArray} {D : va_G} {cI cZ cJ : ClassId} {A : Nat → Prop} {H0 : Heap} {ws : va_W} (hexec : p.tables.exec = Jvm.exec) (hb : c.code = cc) (harr : (Cond.arrayClass .long).before args s = true) (hK : va_K D vwCl [(cI, .int), (cZ, .boolean), (cJ, .long)] s) (hP : va_P D vwCl ws H) (hD : va_D A ws) (hS : va_S A H0 H locs) (hA : ∀ q, H0.size ≤ q → A q)
    {n : Int32} {N' : Nat} (hn : ¬ n < 0) (hN : n.toNatClampNeg = N') (hbytes : N' * 8 ≤ 536870912) (hcells : cells + 1 ≤ R.cells) (hslots : slots + N' ≤ R.slots) (hdg : decode cc pc = .ok (.newarray .long, 2))
    (kk : ∀ (q : Nat) (H1 : Heap), va_P D vwCl (ws ++ [(q, .inl (cJ, N', .inr (.inl (fun _ => 0))))]) H1 → va_D A (ws ++ [(q, .inl (cJ, N', .inr (.inl (fun _ => 0))))]) → va_S A H0 H1 locs →
      W p l e R s m args below meth c H1 locs (cells + 1) (slots + N') Q (F0 m (pc + 2) ls (.ref q :: rest))) : W p l e R s m args below meth c H locs cells slots Q (F0 m pc ls (.int n :: rest)) := by
  refine va_newa (atype := .long) (ty := .long) (a0 := (N', .inr (.inl (fun _ => 0)))) hexec hb harr rfl hK hP hD hS hA (fun _ => rfl) hn hN hbytes hcells hslots hdg (fun q cA H1 hK1 hP1 hD1 hS1 => ?_)
  have e1 := (hK1.2 3 _ rfl).2
  have e0 := (hK.2 2 _ rfl).2
  have e : cA = cJ := Option.some.inj (e1.symm.trans e0)
  subst e
  exact kk q H1 hP1 hD1 hS1
end TO
end
section
/-- a picture of a stock: row 0 its numbers, the others its rows -/
abbrev sg_Pic : Type := Nat → Nat → Int32
def sg_up (P : sg_Pic) (k i : Nat) (v : Int32) : sg_Pic := fun r => match Nat.beq r k with
  | true => upd (P k) i v
  | false => P r
theorem sg_up_s {P : sg_Pic} {k i : Nat} {v : Int32} : sg_up P k i v k = upd (P k) i v := by
  unfold sg_up
  rw [show Nat.beq k k = true from Nat.beq_refl k]
theorem sg_up_n {P : sg_Pic} {k i r : Nat} {v : Int32} (h : r ≠ k) : sg_up P k i v r = P r := by
  unfold sg_up
  have : Nat.beq r k = false := by
    cases hb : Nat.beq r k with
    | true => exact absurd (Nat.eq_of_beq_eq_true hb) h
    | false => rfl
  rw [this]
/-- numbers and flags as they have to be -/
def sg_W0 (R Z : Nat → Int32) : Prop := (R 1 = nI (R 1).toNatClampNeg ∧ (R 1).toNatClampNeg ≤ 6) ∧ (R 2 = nI (R 2).toNatClampNeg ∧ (R 2).toNatClampNeg ≤ 5) ∧ (R 3 = nI (R 3).toNatClampNeg ∧ (R 3).toNatClampNeg ≤ 200) ∧ (R 4 = nI (R 4).toNatClampNeg ∧ (R 4).toNatClampNeg ≤ 60) ∧ (R 5 = nI (R 5).toNatClampNeg ∧ (R 5).toNatClampNeg ≤ 90) ∧ ∀ j, Z j = 0 ∨ Z j = 1
def sg_W (P : sg_Pic) : Prop := sg_W0 (P 0) (P 30)
def sg_cn (P : sg_Pic) (k : Nat) : Nat := (P 0 k).toNatClampNeg
theorem sg_W.n1 {P : sg_Pic} (h : sg_W P) : sg_cn P 1 ≤ 6 := h.1.2
theorem sg_W.n2 {P : sg_Pic} (h : sg_W P) : sg_cn P 2 ≤ 5 := h.2.1.2
theorem sg_W.n3 {P : sg_Pic} (h : sg_W P) : sg_cn P 3 ≤ 200 := h.2.2.1.2
theorem sg_W.n4 {P : sg_Pic} (h : sg_W P) : sg_cn P 4 ≤ 60 := h.2.2.2.1.2
theorem sg_W.n5 {P : sg_Pic} (h : sg_W P) : sg_cn P 5 ≤ 90 := h.2.2.2.2.1.2
theorem sg_W.e1 {P : sg_Pic} (h : sg_W P) : P 0 1 = nI (sg_cn P 1) := h.1.1
theorem sg_W.e2 {P : sg_Pic} (h : sg_W P) : P 0 2 = nI (sg_cn P 2) := h.2.1.1
theorem sg_W.e3 {P : sg_Pic} (h : sg_W P) : P 0 3 = nI (sg_cn P 3) := h.2.2.1.1
theorem sg_W.e4 {P : sg_Pic} (h : sg_W P) : P 0 4 = nI (sg_cn P 4) := h.2.2.2.1.1
theorem sg_W.e5 {P : sg_Pic} (h : sg_W P) : P 0 5 = nI (sg_cn P 5) := h.2.2.2.2.1.1
theorem sg_W.z {P : sg_Pic} (h : sg_W P) (j : Nat) : P 30 j = 0 ∨ P 30 j = 1 := h.2.2.2.2.2 j
/-- the same numbers, the same flags -/
def sg_K (P Q : sg_Pic) : Prop := P 0 = Q 0 ∧ P 30 = Q 30
theorem sg_K.W {P Q : sg_Pic} (h : sg_K P Q) (hw : sg_W Q) : sg_W P := by
  unfold sg_W
  rw [h.1, h.2]
  exact hw
theorem sg_K.c {P Q : sg_Pic} (h : sg_K P Q) (k : Nat) : sg_cn P k = sg_cn Q k := by
  unfold sg_cn
  rw [h.1]
theorem sg_K.e {P Q : sg_Pic} (h : sg_K P Q) (k : Nat) : P 0 k = Q 0 k := by rw [h.1]
theorem sg_K.trans {P Q R : sg_Pic} (h : sg_K P Q) (g : sg_K Q R) : sg_K P R := ⟨h.1.trans g.1, h.2.trans g.2⟩
/-- the same numbers but that of transports -/
def sg_K5 (P Q : sg_Pic) : Prop := (∀ k, k ≠ 5 → P 0 k = Q 0 k) ∧ P 30 = Q 30 ∧ (sg_W Q → sg_W P)
theorem sg_K5.W {P Q : sg_Pic} (h : sg_K5 P Q) (hw : sg_W Q) : sg_W P := h.2.2 hw
theorem sg_K5.e {P Q : sg_Pic} (h : sg_K5 P Q) (k : Nat) (hk : k ≠ 5) : P 0 k = Q 0 k := h.1 k hk
theorem sg_K5.of {P Q : sg_Pic} (h : sg_K P Q) : sg_K5 P Q := ⟨fun k _ => h.e k, h.2, h.W⟩
theorem sg_K5.trans {P Q R : sg_Pic} (h : sg_K5 P Q) (g : sg_K5 Q R) : sg_K5 P R := ⟨fun k hk => (h.1 k hk).trans (g.1 k hk), h.2.1.trans g.2.1, fun w => h.2.2 (g.2.2 w)⟩
/-- the same numbers but that of lots -/
def sg_K3 (P Q : sg_Pic) : Prop := (∀ k, k ≠ 3 → P 0 k = Q 0 k) ∧ P 30 = Q 30 ∧ (sg_W Q → sg_W P)
theorem sg_K3.W {P Q : sg_Pic} (h : sg_K3 P Q) (hw : sg_W Q) : sg_W P := h.2.2 hw
theorem sg_K3.e {P Q : sg_Pic} (h : sg_K3 P Q) (k : Nat) (hk : k ≠ 3) : P 0 k = Q 0 k := h.1 k hk
theorem sg_K3.of {P Q : sg_Pic} (h : sg_K P Q) : sg_K3 P Q := ⟨fun k _ => h.e k, h.2, h.W⟩
theorem sg_K3.trans {P Q R : sg_Pic} (h : sg_K3 P Q) (g : sg_K3 Q R) : sg_K3 P R := ⟨fun k hk => (h.1 k hk).trans (g.1 k hk), h.2.1.trans g.2.1, fun w => h.2.2 (g.2.2 w)⟩
/-- the same numbers of items, sites and orders -/
def sg_KD (P Q : sg_Pic) : Prop := P 0 1 = Q 0 1 ∧ P 0 2 = Q 0 2 ∧ P 0 4 = Q 0 4 ∧ P 30 = Q 30 ∧ (sg_W Q → sg_W P)
theorem sg_KD.W {P Q : sg_Pic} (h : sg_KD P Q) (hw : sg_W Q) : sg_W P := h.2.2.2.2 hw
theorem sg_KD.of {P Q : sg_Pic} (h : sg_K P Q) : sg_KD P Q := ⟨h.e 1, h.e 2, h.e 4, h.2, h.W⟩
theorem sg_KD.of5 {P Q : sg_Pic} (h : sg_K5 P Q) : sg_KD P Q := ⟨h.1 1 (by decide), h.1 2 (by decide), h.1 4 (by decide), h.2⟩
theorem sg_KD.of3 {P Q : sg_Pic} (h : sg_K3 P Q) : sg_KD P Q := ⟨h.1 1 (by decide), h.1 2 (by decide), h.1 4 (by decide), h.2⟩
theorem sg_KD.trans {P Q R : sg_Pic} (h : sg_KD P Q) (g : sg_KD Q R) : sg_KD P R := ⟨h.1.trans g.1, h.2.1.trans g.2.1, h.2.2.1.trans g.2.2.1, h.2.2.2.1.trans g.2.2.2.1, fun w => h.2.2.2.2 (g.2.2.2.2 w)⟩
theorem sg_geN {B : Int32} {N j : Nat} (hB : B = nI N) (h : N ≤ j) (hN : j < 2 ^ 31) : B ≤ nI j := by
  rw [hB]
  exact nI_le h hN
theorem sg_nge {B : Int32} {N j : Nat} (hB : B = nI N) (h : j < N) (hN : N < 2 ^ 31) : ¬ (B ≤ nI j) := by
  rw [hB]
  exact nI_ge h hN
theorem sg_lt {B : Int32} {N j : Nat} (hB : B = nI N) (c : ¬ (B ≤ nI j)) (hN : j < 2 ^ 31) : j < N := by
  rcases Nat.lt_or_ge j N with q | q
  · exact q
  · exact absurd (by rw [hB]; exact nI_le q hN) c
theorem sg_eq {B : Int32} {N j : Nat} (hB : B = nI N) (c : B ≤ nI j) (hj : j ≤ N) (hN : N < 2 ^ 31) : j = N := by
  rcases Nat.lt_or_ge j N with q | q
  · rw [hB] at c
    exact absurd c (nI_ge q hN)
  · omega
theorem sg_ix {B x : Int32} {N : Nat} (hB : B = nI N) (hN : N < 2 ^ 31) (h0 : ¬ x < 0) (h1 : ¬ B ≤ x) : x = nI (Int32.toNatClampNeg x) ∧ Int32.toNatClampNeg x < N := by
  obtain ⟨j, hj, rfl⟩ := nI_of h0
  rw [nI_clamp hj]
  exact ⟨rfl, sg_lt hB h1 hj⟩
theorem sg_dec (j : Nat) : nI (j + 1) + Int32.ofInt (-1) = nI j := by
  show nI (j + 1) + Int32.ofInt (-1) = nI j
  rw [← nI_1 j, Int32.add_assoc]
  show nI j + (1 + Int32.ofInt (-1)) = nI j
  have e : (1 : Int32) + Int32.ofInt (-1) = 0 := by decide
  rw [e]
  exact Int32.add_zero _
theorem sg_mulN (i j : Nat) : nI i * nI j = nI (i * j) := (Int32.ofNat_mul i j).symm
section SGR
variable {p : Program} {l : Launch} {e : Env} {R : Room} {s : State} {m : MethodId} {args : Array Value} {below : List Frame} {meth : Method} {c : Code} {H H0 : Heap} {locs : List Loc} {cells slots : Nat} {Q : State → Prop} {pc : Nat} {ls : Array Slot} {rest : List Value} {cc : ByteArray} {D : va_G} {cl : List vw_C} {tys : List (ClassId × FieldType)} {ws : va_W} {a : Nat} {A : Nat → Prop}

theorem sg_iald (hexec : p.tables.exec = Jvm.exec) (hb : c.code = cc) (hK : va_K D cl tys s) (hP : va_P D cl ws H) (q0 t0 : Nat) {cA : ClassId} {n : Nat} {f : Nat → Int32} (ha : ws[q0]? = some (a, .inl (cA, n, .inl f))) (ht : tys[t0]? = some (cA, .int)) {i : Int32} {j : Nat} (hi : i = nI j) (hj : j < n) (hn : n < 2 ^ 31) (hdg : decode cc pc = .ok (.iaload, 1))
    (kk : W p l e R s m args below meth c H locs cells slots Q (F0 m (pc + 1) ls (.int (f j) :: rest))) : W p l e R s m args below meth c H locs cells slots Q (F0 m pc ls (.int i :: .ref a :: rest)) := by
  subst hi
  have e9 : Int32.toNatClampNeg (nI j) = j := nI_clamp (Nat.lt_trans hj hn)
  refine va_iald hexec hb hK hP q0 t0 ha ht (vp_in_nI hj hn) hdg ?_
  rw [e9]
  exact kk

theorem sg_zald (hexec : p.tables.exec = Jvm.exec) (hb : c.code = cc) (hK : va_K D cl tys s) (hP : va_P D cl ws H) (q0 t0 : Nat) {cA : ClassId} {n : Nat} {f : Nat → Int32} (ha : ws[q0]? = some (a, .inl (cA, n, .inl f))) (ht : tys[t0]? = some (cA, .boolean)) {i : Int32} {j : Nat} (hi : i = nI j) (hj : j < n) (hn : n < 2 ^ 31) (hdg : decode cc pc = .ok (.baload, 1))
    (kk : W p l e R s m args below meth c H locs cells slots Q (F0 m (pc + 1) ls (.int (f j) :: rest))) : W p l e R s m args below meth c H locs cells slots Q (F0 m pc ls (.int i :: .ref a :: rest)) := by
  subst hi
  have e9 : Int32.toNatClampNeg (nI j) = j := nI_clamp (Nat.lt_trans hj hn)
  refine va_zald hexec hb hK hP q0 t0 ha ht (vp_in_nI hj hn) hdg ?_
  rw [e9]
  exact kk

theorem sg_lald (hexec : p.tables.exec = Jvm.exec) (hb : c.code = cc) (hK : va_K D cl tys s) (hP : va_P D cl ws H) (q0 t0 : Nat) {cA : ClassId} {n : Nat} {f : Nat → Int64} (ha : ws[q0]? = some (a, .inl (cA, n, .inr (.inl f)))) (ht : tys[t0]? = some (cA, .long)) {i : Int32} {j : Nat} (hi : i = nI j) (hj : j < n) (hn : n < 2 ^ 31) (hdg : decode cc pc = .ok (.laload, 1))
    (kk : W p l e R s m args below meth c H locs cells slots Q (F0 m (pc + 1) ls (.long (f j) :: rest))) : W p l e R s m args below meth c H locs cells slots Q (F0 m pc ls (.int i :: .ref a :: rest)) := by
  subst hi
  have e9 : Int32.toNatClampNeg (nI j) = j := nI_clamp (Nat.lt_trans hj hn)
  refine va_lald hexec hb hK hP q0 t0 ha ht (vp_in_nI hj hn) hdg ?_
  rw [e9]
  exact kk

theorem sg_iast (hexec : p.tables.exec = Jvm.exec) (hb : c.code = cc) (hK : va_K D cl tys s) (hP : va_P D cl ws H) (hD : va_D A ws) (hS : va_S A H0 H locs) (q0 t0 : Nat) {cA : ClassId} {n : Nat} {f : Nat → Int32} (ha : ws[q0]? = some (a, .inl (cA, n, .inl (f)))) (ht : tys[t0]? = some (cA, .int)) {i : Int32} {j : Nat} {x : Int32} (hi : i = nI j) (hj : j < n) (hn : n < 2 ^ 31) (hdg : decode cc pc = .ok (.iastore, 1))
    (kk : ∀ (H1 : Heap) (locs1 : List Loc), va_P D cl (ws.set q0 (a, .inl (cA, n, .inl (upd f j x)))) H1 → va_D A (ws.set q0 (a, .inl (cA, n, .inl (upd f j x)))) → va_S A H0 H1 locs1 → W p l e R s m args below meth c H1 locs1 cells slots Q (F0 m (pc + 1) ls rest)) : W p l e R s m args below meth c H locs cells slots Q (F0 m pc ls (.int x :: .int i :: .ref a :: rest)) := by
  subst hi
  have e9 : Int32.toNatClampNeg (nI j) = j := nI_clamp (Nat.lt_trans hj hn)
  refine va_iast hexec hb hK hP hD hS q0 t0 ha ht (vp_in_nI hj hn) hdg ?_
  rw [e9]
  exact kk

theorem sg_zast (hexec : p.tables.exec = Jvm.exec) (hb : c.code = cc) (hK : va_K D cl tys s) (hP : va_P D cl ws H) (hD : va_D A ws) (hS : va_S A H0 H locs) (q0 t0 : Nat) {cA : ClassId} {n : Nat} {f : Nat → Int32} (ha : ws[q0]? = some (a, .inl (cA, n, .inl (f)))) (ht : tys[t0]? = some (cA, .boolean)) {i : Int32} {j : Nat} {x : Int32} (hi : i = nI j) (hj : j < n) (hn : n < 2 ^ 31) (hz : vp_nar .boolean x = x) (hdg : decode cc pc = .ok (.bastore, 1))
    (kk : ∀ (H1 : Heap) (locs1 : List Loc), va_P D cl (ws.set q0 (a, .inl (cA, n, .inl (upd f j x)))) H1 → va_D A (ws.set q0 (a, .inl (cA, n, .inl (upd f j x)))) → va_S A H0 H1 locs1 → W p l e R s m args below meth c H1 locs1 cells slots Q (F0 m (pc + 1) ls rest)) : W p l e R s m args below meth c H locs cells slots Q (F0 m pc ls (.int x :: .int i :: .ref a :: rest)) := by
  subst hi
  have e9 : Int32.toNatClampNeg (nI j) = j := nI_clamp (Nat.lt_trans hj hn)
  refine va_zast hexec hb hK hP hD hS q0 t0 ha ht (vp_in_nI hj hn) hdg ?_
  rw [e9]
  rw [hz]
  exact kk

theorem sg_last (hexec : p.tables.exec = Jvm.exec) (hb : c.code = cc) (hK : va_K D cl tys s) (hP : va_P D cl ws H) (hD : va_D A ws) (hS : va_S A H0 H locs) (q0 t0 : Nat) {cA : ClassId} {n : Nat} {f : Nat → Int64} (ha : ws[q0]? = some (a, .inl (cA, n, .inr (.inl (f))))) (ht : tys[t0]? = some (cA, .long)) {i : Int32} {j : Nat} {x : Int64} (hi : i = nI j) (hj : j < n) (hn : n < 2 ^ 31) (hdg : decode cc pc = .ok (.lastore, 1))
    (kk : ∀ (H1 : Heap) (locs1 : List Loc), va_P D cl (ws.set q0 (a, .inl (cA, n, .inr (.inl (vp_updL f j x))))) H1 → va_D A (ws.set q0 (a, .inl (cA, n, .inr (.inl (vp_updL f j x))))) → va_S A H0 H1 locs1 → W p l e R s m args below meth c H1 locs1 cells slots Q (F0 m (pc + 1) ls rest)) : W p l e R s m args below meth c H locs cells slots Q (F0 m pc ls (.long x :: .int i :: .ref a :: rest)) := by
  subst hi
  have e9 : Int32.toNatClampNeg (nI j) = j := nI_clamp (Nat.lt_trans hj hn)
  refine va_last hexec hb hK hP hD hS q0 t0 ha ht (vp_in_nI hj hn) hdg ?_
  rw [e9]
  exact kk

theorem sg_dr {mc ms : Nat} {g : JFrame} {Qa : State → Outcome → State → Prop} {free : Addr → Prop} (h : va_Run p l e R s m args below meth c H locs cells slots mc ms g rest Qa free) : CallRun p l e R s m args below meth c H locs cells slots mc ms g rest Qa free := fun T hT X => by
  obtain ⟨v, st₀, t, T', L, h0, X', hL, e1, _, q, st⟩ := h T hT X
  exact ⟨v, st₀, t, T', L, h0, X', hL, e1, q, st⟩
end SGR

/-- all cells of a stock -/
def sg_St (cI cZ : ClassId) (a : Nat → Nat) (P : sg_Pic) (q : Nat → Int32) : va_W := [(a 0, .inr (6, [.int (P 0 0), .ref (a 1), .ref (a 2), .ref (a 3), .ref (a 4), .ref (a 5), .ref (a 6), .ref (a 70), .ref (a 71)])),
  (a 1, .inr (0, [.int (P 0 1), .ref (a 10), .ref (a 11), .ref (a 12), .ref (a 13)])),
  (a 2, .inr (5, [.int (P 0 2), .ref (a 20), .ref (a 21)])),
  (a 3, .inr (4, [.ref (a 30), .ref (a 31), .ref (a 32), .ref (a 33), .ref (a 34)])),
  (a 4, .inr (1, [.int (P 0 3), .ref (a 40), .ref (a 41), .ref (a 42), .ref (a 43), .ref (a 44)])),
  (a 5, .inr (2, [.int (P 0 4), .ref (a 50), .ref (a 51), .ref (a 52), .ref (a 53), .ref (a 54), .ref (a 55), .ref (a 56), .ref (a 57), .ref (a 58), .ref (a 59)])),
  (a 6, .inr (7, [.int (P 0 5), .ref (a 60), .ref (a 61), .ref (a 62), .ref (a 63), .ref (a 64), .ref (a 65)])),
  (a 10, .inl (cI, 6, .inl (P 10))),
  (a 11, .inl (cI, 6, .inl (P 11))),
  (a 12, .inl (cI, 6, .inl (P 12))),
  (a 13, .inl (cI, 6, .inl (P 13))),
  (a 20, .inl (cI, 5, .inl (P 20))),
  (a 21, .inl (cI, 25, .inl (P 21))),
  (a 30, .inl (cZ, 30, .inl (P 30))),
  (a 31, .inl (cI, 30, .inl (P 31))),
  (a 32, .inl (cI, 30, .inl (P 32))),
  (a 33, .inl (cI, 30, .inl (P 33))),
  (a 34, .inl (cI, 30, .inl (P 34))),
  (a 40, .inl (cI, 200, .inl (P 40))),
  (a 41, .inl (cI, 200, .inl (P 41))),
  (a 42, .inl (cI, 200, .inl (P 42))),
  (a 43, .inl (cI, 200, .inl (P 43))),
  (a 44, .inl (cI, 200, .inl (P 44))),
  (a 50, .inl (cI, 60, .inl (P 50))),
  (a 51, .inl (cI, 60, .inl (P 51))),
  (a 52, .inl (cI, 60, .inl (P 52))),
  (a 53, .inl (cI, 60, .inl (P 53))),
  (a 54, .inl (cI, 60, .inl (P 54))),
  (a 55, .inl (cI, 60, .inl (P 55))),
  (a 56, .inl (cI, 60, .inl (P 56))),
  (a 57, .inl (cI, 60, .inl (P 57))),
  (a 58, .inl (cI, 60, .inl (P 58))),
  (a 59, .inl (cI, 12000, .inl (P 59))),
  (a 60, .inl (cI, 90, .inl (P 60))),
  (a 61, .inl (cI, 90, .inl (P 61))),
  (a 62, .inl (cI, 90, .inl (P 62))),
  (a 63, .inl (cI, 90, .inl (P 63))),
  (a 64, .inl (cI, 90, .inl (P 64))),
  (a 65, .inl (cI, 90, .inl (P 65))),
  (a 70, .inl (cI, 5, .inl (P 70))),
  (a 71, .inl (cI, 60, .inl (q)))]
end
section
abbrev wsX00 : List Cond := u_ws RX0 TX0 5
abbrev cX0_has : ByteArray := prog_2_method_2_code
def yX0_has : MethodName := ⟨RX0, "has", "(I)Z"⟩
abbrev wsX10 : List Cond := u_ws RX1 TX1 6
abbrev cX1_has : ByteArray := prog_3_method_2_code
def yX1_has : MethodName := ⟨RX1, "has", "(I)Z"⟩
abbrev cX1_freeOf : ByteArray := prog_3_method_5_code
def yX1_freeOf : MethodName := ⟨RX1, "freeOf", "(I)I"⟩
abbrev cX1_unitsAt : ByteArray := prog_3_method_6_code
def yX1_unitsAt : MethodName := ⟨RX1, "unitsAt", "(II)I"⟩
abbrev cX1_unitsUpTo : ByteArray := prog_3_method_7_code
def yX1_unitsUpTo : MethodName := ⟨RX1, "unitsUpTo", "(III)I"⟩
abbrev cX1_freeAt : ByteArray := prog_3_method_8_code
def yX1_freeAt : MethodName := ⟨RX1, "freeAt", "(II)I"⟩
abbrev cX1_freeFrom : ByteArray := prog_3_method_9_code
def yX1_freeFrom : MethodName := ⟨RX1, "freeFrom", "(III)I"⟩
abbrev cX1_allUnitsAt : ByteArray := prog_3_method_10_code
def yX1_allUnitsAt : MethodName := ⟨RX1, "allUnitsAt", "(I)I"⟩
abbrev wsX20 : List Cond := u_ws RX2 TX2 11
abbrev cX2_has : ByteArray := prog_4_method_2_code
def yX2_has : MethodName := ⟨RX2, "has", "(I)Z"⟩
abbrev cX2_heldOf : ByteArray := prog_4_method_5_code
def yX2_heldOf : MethodName := ⟨RX2, "heldOf", "(II)I"⟩
abbrev cX2_missing : ByteArray := prog_4_method_6_code
def yX2_missing : MethodName := ⟨RX2, "missing", "(I)I"⟩
abbrev cX2_isFrom : ByteArray := prog_4_method_7_code
def yX2_isFrom : MethodName := ⟨RX2, "isFrom", "(III)Z"⟩
abbrev cX2_comesAhead : ByteArray := prog_4_method_8_code
def yX2_comesAhead : MethodName := ⟨RX2, "comesAhead", "(II)Z"⟩
abbrev cX2_openUnitsFrom : ByteArray := prog_4_method_9_code
def yX2_openUnitsFrom : MethodName := ⟨RX2, "openUnitsFrom", "(II)I"⟩
abbrev cX2_useWithin : ByteArray := prog_4_method_10_code
def yX2_useWithin : MethodName := ⟨RX2, "useWithin", "(IIII)I"⟩
abbrev cX2_allReserved : ByteArray := prog_4_method_11_code
def yX2_allReserved : MethodName := ⟨RX2, "allReserved", "()I"⟩
abbrev wsX50 : List Cond := u_ws RX5 TX5 3
abbrev cX5_has : ByteArray := prog_7_method_2_code
def yX5_has : MethodName := ⟨RX5, "has", "(I)Z"⟩
abbrev wsX70 : List Cond := u_ws RX7 TX7 7
abbrev cX7_full : ByteArray := prog_9_method_3_code
def yX7_full : MethodName := ⟨RX7, "full", "()Z"⟩
abbrev cX7_unitsTo : ByteArray := prog_9_method_6_code
def yX7_unitsTo : MethodName := ⟨RX7, "unitsTo", "(II)I"⟩
abbrev cX8_pair : ByteArray := prog_1_method_61_code
def wsX0_has : List Cond := .code yX0_has cX0_has 2 (some .boolean) :: ([.fieldLink RX0 24 "Granary$Items" "count" "I"] ++ wsX00)
def wsX1_has : List Cond := .code yX1_has cX1_has 2 (some .boolean) :: ([.fieldLink RX1 27 "Granary$Lots" "count" "I"] ++ wsX10)
def wsX1_freeOf : List Cond := .code yX1_freeOf cX1_freeOf 2 (some .int) :: ([.fieldLink RX1 18 "Granary$Lots" "units" "[I", .fieldLink RX1 21 "Granary$Lots" "reserved" "[I"] ++ wsX10)
def wsX1_unitsUpTo : List Cond := .code yX1_unitsUpTo cX1_unitsUpTo 6 (some .int) :: ([.fieldLink RX1 27 "Granary$Lots" "count" "I", .fieldLink RX1 9 "Granary$Lots" "item" "[I", .fieldLink RX1 15 "Granary$Lots" "site" "[I", .fieldLink RX1 24 "Granary$Lots" "last" "[I", .fieldLink RX1 18 "Granary$Lots" "units" "[I"] ++ wsX10)
def wsX1_unitsAt : List Cond := .code yX1_unitsAt cX1_unitsAt 3 (some .int) :: ([.constant RX1 31 (1000000), .methodLink RX1 32 yX1_unitsUpTo, .instanceMethod yX1_unitsUpTo, .selects RX1 yX1_unitsUpTo yX1_unitsUpTo, .initialized RX1, .code yX1_unitsUpTo cX1_unitsUpTo 6 (some .int), .fieldLink RX1 27 "Granary$Lots" "count" "I", .fieldLink RX1 9 "Granary$Lots" "item" "[I", .fieldLink RX1 15 "Granary$Lots" "site" "[I", .fieldLink RX1 24 "Granary$Lots" "last" "[I", .fieldLink RX1 18 "Granary$Lots" "units" "[I"] ++ wsX10)
def wsX1_freeFrom : List Cond := .code yX1_freeFrom cX1_freeFrom 6 (some .int) :: ([.fieldLink RX1 27 "Granary$Lots" "count" "I", .fieldLink RX1 9 "Granary$Lots" "item" "[I", .fieldLink RX1 15 "Granary$Lots" "site" "[I", .fieldLink RX1 24 "Granary$Lots" "last" "[I", .methodLink RX1 39 yX1_freeOf, .instanceMethod yX1_freeOf, .selects RX1 yX1_freeOf yX1_freeOf, .initialized RX1, .code yX1_freeOf cX1_freeOf 2 (some .int), .fieldLink RX1 18 "Granary$Lots" "units" "[I", .fieldLink RX1 21 "Granary$Lots" "reserved" "[I"] ++ wsX10)
def wsX1_freeAt : List Cond := .code yX1_freeAt cX1_freeAt 3 (some .int) :: ([.methodLink RX1 36 yX1_freeFrom, .instanceMethod yX1_freeFrom, .selects RX1 yX1_freeFrom yX1_freeFrom, .initialized RX1, .code yX1_freeFrom cX1_freeFrom 6 (some .int), .fieldLink RX1 27 "Granary$Lots" "count" "I", .fieldLink RX1 9 "Granary$Lots" "item" "[I", .fieldLink RX1 15 "Granary$Lots" "site" "[I", .fieldLink RX1 24 "Granary$Lots" "last" "[I", .methodLink RX1 39 yX1_freeOf, .instanceMethod yX1_freeOf, .selects RX1 yX1_freeOf yX1_freeOf, .code yX1_freeOf cX1_freeOf 2 (some .int), .fieldLink RX1 18 "Granary$Lots" "units" "[I", .fieldLink RX1 21 "Granary$Lots" "reserved" "[I"] ++ wsX10)
def wsX1_allUnitsAt : List Cond := .code yX1_allUnitsAt cX1_allUnitsAt 4 (some .int) :: ([.fieldLink RX1 27 "Granary$Lots" "count" "I", .fieldLink RX1 15 "Granary$Lots" "site" "[I", .fieldLink RX1 18 "Granary$Lots" "units" "[I"] ++ wsX10)
def wsX2_has : List Cond := .code yX2_has cX2_has 2 (some .boolean) :: ([.fieldLink RX2 42 "Granary$Orders" "count" "I"] ++ wsX20)
def wsX2_heldOf : List Cond := .code yX2_heldOf cX2_heldOf 3 (some .int) :: ([.fieldLink RX2 39 "Granary$Orders" "held" "[I"] ++ wsX20)
def wsX2_missing : List Cond := .code yX2_missing cX2_missing 2 (some .int) :: ([.fieldLink RX2 18 "Granary$Orders" "units" "[I", .fieldLink RX2 21 "Granary$Orders" "reserved" "[I"] ++ wsX20)
def wsX2_isFrom : List Cond := .code yX2_isFrom cX2_isFrom 4 (some .boolean) :: ([.fieldLink RX2 9 "Granary$Orders" "item" "[I", .fieldLink RX2 15 "Granary$Orders" "site" "[I"] ++ wsX20)
def wsX2_comesAhead : List Cond := .code yX2_comesAhead cX2_comesAhead 3 (some .boolean) :: ([.fieldLink RX2 27 "Granary$Orders" "rank" "[I", .fieldLink RX2 24 "Granary$Orders" "due" "[I"] ++ wsX20)
def wsX2_openUnitsFrom : List Cond := .code yX2_openUnitsFrom cX2_openUnitsFrom 5 (some .int) :: ([.fieldLink RX2 42 "Granary$Orders" "count" "I", .fieldLink RX2 33 "Granary$Orders" "state" "[I", .fieldLink RX2 18 "Granary$Orders" "units" "[I", .methodLink RX2 46 yX2_isFrom, .instanceMethod yX2_isFrom, .selects RX2 yX2_isFrom yX2_isFrom, .initialized RX2, .code yX2_isFrom cX2_isFrom 4 (some .boolean), .fieldLink RX2 9 "Granary$Orders" "item" "[I", .fieldLink RX2 15 "Granary$Orders" "site" "[I"] ++ wsX20)
def wsX2_useWithin : List Cond := .code yX2_useWithin cX2_useWithin 7 (some .int) :: ([.fieldLink RX2 42 "Granary$Orders" "count" "I", .fieldLink RX2 33 "Granary$Orders" "state" "[I", .fieldLink RX2 24 "Granary$Orders" "due" "[I", .fieldLink RX2 18 "Granary$Orders" "units" "[I", .methodLink RX2 46 yX2_isFrom, .instanceMethod yX2_isFrom, .selects RX2 yX2_isFrom yX2_isFrom, .initialized RX2, .code yX2_isFrom cX2_isFrom 4 (some .boolean), .fieldLink RX2 9 "Granary$Orders" "item" "[I", .fieldLink RX2 15 "Granary$Orders" "site" "[I"] ++ wsX20)
def wsX2_allReserved : List Cond := .code yX2_allReserved cX2_allReserved 3 (some .int) :: ([.fieldLink RX2 42 "Granary$Orders" "count" "I", .fieldLink RX2 21 "Granary$Orders" "reserved" "[I"] ++ wsX20)
def wsX8_pair : List Cond := .code yX8_pair cX8_pair 2 (some .int) :: ([])
def wsX7_unitsTo : List Cond := .code yX7_unitsTo cX7_unitsTo 5 (some .int) :: ([.fieldLink RX7 30 "Granary$Transports" "count" "I", .fieldLink RX7 27 "Granary$Transports" "moving" "[I", .fieldLink RX7 9 "Granary$Transports" "item" "[I", .fieldLink RX7 15 "Granary$Transports" "site" "[I", .fieldLink RX7 18 "Granary$Transports" "units" "[I"] ++ wsX70)
def wsX5_has : List Cond := .code yX5_has cX5_has 2 (some .boolean) :: ([.fieldLink RX5 18 "Granary$Sites" "count" "I"] ++ wsX50)
def wsX7_full : List Cond := .code yX7_full cX7_full 1 (some .boolean) :: ([.fieldLink RX7 30 "Granary$Transports" "count" "I"] ++ wsX70)
end
section
theorem dX0_has_0 : decode cX0_has 0 = .ok (.iload_n 1, 1) := by decide +kernel
theorem dX0_has_1 : decode cX0_has 1 = .ok (.ifCond .lt 15, 3) := by decide +kernel
theorem dX0_has_4 : decode cX0_has 4 = .ok (.iload_n 1, 1) := by decide +kernel
theorem dX0_has_5 : decode cX0_has 5 = .ok (.aload_n 0, 1) := by decide +kernel
theorem dX0_has_6 : decode cX0_has 6 = .ok (.getfield 24, 3) := by decide +kernel
theorem dX0_has_9 : decode cX0_has 9 = .ok (.if_icmp .ge 7, 3) := by decide +kernel
theorem dX0_has_12 : decode cX0_has 12 = .ok (.iconst 1, 1) := by decide +kernel
theorem dX0_has_13 : decode cX0_has 13 = .ok (.goto 4, 3) := by decide +kernel
theorem dX0_has_16 : decode cX0_has 16 = .ok (.iconst 0, 1) := by decide +kernel
theorem dX0_has_17 : decode cX0_has 17 = .ok (.ireturn, 1) := by decide +kernel
theorem dX1_has_0 : decode cX1_has 0 = .ok (.iload_n 1, 1) := by decide +kernel
theorem dX1_has_1 : decode cX1_has 1 = .ok (.ifCond .lt 15, 3) := by decide +kernel
theorem dX1_has_4 : decode cX1_has 4 = .ok (.iload_n 1, 1) := by decide +kernel
theorem dX1_has_5 : decode cX1_has 5 = .ok (.aload_n 0, 1) := by decide +kernel
theorem dX1_has_6 : decode cX1_has 6 = .ok (.getfield 27, 3) := by decide +kernel
theorem dX1_has_9 : decode cX1_has 9 = .ok (.if_icmp .ge 7, 3) := by decide +kernel
theorem dX1_has_12 : decode cX1_has 12 = .ok (.iconst 1, 1) := by decide +kernel
theorem dX1_has_13 : decode cX1_has 13 = .ok (.goto 4, 3) := by decide +kernel
theorem dX1_has_16 : decode cX1_has 16 = .ok (.iconst 0, 1) := by decide +kernel
theorem dX1_has_17 : decode cX1_has 17 = .ok (.ireturn, 1) := by decide +kernel
theorem dX1_freeOf_0 : decode cX1_freeOf 0 = .ok (.aload_n 0, 1) := by decide +kernel
theorem dX1_freeOf_1 : decode cX1_freeOf 1 = .ok (.getfield 18, 3) := by decide +kernel
theorem dX1_freeOf_4 : decode cX1_freeOf 4 = .ok (.iload_n 1, 1) := by decide +kernel
theorem dX1_freeOf_5 : decode cX1_freeOf 5 = .ok (.iaload, 1) := by decide +kernel
theorem dX1_freeOf_6 : decode cX1_freeOf 6 = .ok (.aload_n 0, 1) := by decide +kernel
theorem dX1_freeOf_7 : decode cX1_freeOf 7 = .ok (.getfield 21, 3) := by decide +kernel
theorem dX1_freeOf_10 : decode cX1_freeOf 10 = .ok (.iload_n 1, 1) := by decide +kernel
theorem dX1_freeOf_11 : decode cX1_freeOf 11 = .ok (.iaload, 1) := by decide +kernel
theorem dX1_freeOf_12 : decode cX1_freeOf 12 = .ok (.isub, 1) := by decide +kernel
theorem dX1_freeOf_13 : decode cX1_freeOf 13 = .ok (.ireturn, 1) := by decide +kernel
theorem dX1_unitsAt_0 : decode cX1_unitsAt 0 = .ok (.aload_n 0, 1) := by decide +kernel
theorem dX1_unitsAt_1 : decode cX1_unitsAt 1 = .ok (.iload_n 1, 1) := by decide +kernel
theorem dX1_unitsAt_2 : decode cX1_unitsAt 2 = .ok (.iload_n 2, 1) := by decide +kernel
theorem dX1_unitsAt_3 : decode cX1_unitsAt 3 = .ok (.ldc 31, 2) := by decide +kernel
theorem dX1_unitsAt_5 : decode cX1_unitsAt 5 = .ok (.invokevirtual 32, 3) := by decide +kernel
theorem dX1_unitsAt_8 : decode cX1_unitsAt 8 = .ok (.ireturn, 1) := by decide +kernel
theorem dX1_unitsUpTo_0 : decode cX1_unitsUpTo 0 = .ok (.iconst 0, 1) := by decide +kernel
theorem dX1_unitsUpTo_1 : decode cX1_unitsUpTo 1 = .ok (.istore 4, 2) := by decide +kernel
theorem dX1_unitsUpTo_3 : decode cX1_unitsUpTo 3 = .ok (.iconst 0, 1) := by decide +kernel
theorem dX1_unitsUpTo_4 : decode cX1_unitsUpTo 4 = .ok (.istore 5, 2) := by decide +kernel
theorem dX1_unitsUpTo_6 : decode cX1_unitsUpTo 6 = .ok (.iload 5, 2) := by decide +kernel
theorem dX1_unitsUpTo_8 : decode cX1_unitsUpTo 8 = .ok (.aload_n 0, 1) := by decide +kernel
theorem dX1_unitsUpTo_9 : decode cX1_unitsUpTo 9 = .ok (.getfield 27, 3) := by decide +kernel
theorem dX1_unitsUpTo_12 : decode cX1_unitsUpTo 12 = .ok (.if_icmp .ge 54, 3) := by decide +kernel
theorem dX1_unitsUpTo_15 : decode cX1_unitsUpTo 15 = .ok (.aload_n 0, 1) := by decide +kernel
theorem dX1_unitsUpTo_16 : decode cX1_unitsUpTo 16 = .ok (.getfield 9, 3) := by decide +kernel
theorem dX1_unitsUpTo_19 : decode cX1_unitsUpTo 19 = .ok (.iload 5, 2) := by decide +kernel
theorem dX1_unitsUpTo_21 : decode cX1_unitsUpTo 21 = .ok (.iaload, 1) := by decide +kernel
theorem dX1_unitsUpTo_22 : decode cX1_unitsUpTo 22 = .ok (.iload_n 1, 1) := by decide +kernel
theorem dX1_unitsUpTo_23 : decode cX1_unitsUpTo 23 = .ok (.if_icmp .ne 37, 3) := by decide +kernel
theorem dX1_unitsUpTo_26 : decode cX1_unitsUpTo 26 = .ok (.aload_n 0, 1) := by decide +kernel
theorem dX1_unitsUpTo_27 : decode cX1_unitsUpTo 27 = .ok (.getfield 15, 3) := by decide +kernel
theorem dX1_unitsUpTo_30 : decode cX1_unitsUpTo 30 = .ok (.iload 5, 2) := by decide +kernel
theorem dX1_unitsUpTo_32 : decode cX1_unitsUpTo 32 = .ok (.iaload, 1) := by decide +kernel
theorem dX1_unitsUpTo_33 : decode cX1_unitsUpTo 33 = .ok (.iload_n 2, 1) := by decide +kernel
theorem dX1_unitsUpTo_34 : decode cX1_unitsUpTo 34 = .ok (.if_icmp .ne 26, 3) := by decide +kernel
theorem dX1_unitsUpTo_37 : decode cX1_unitsUpTo 37 = .ok (.aload_n 0, 1) := by decide +kernel
theorem dX1_unitsUpTo_38 : decode cX1_unitsUpTo 38 = .ok (.getfield 24, 3) := by decide +kernel
theorem dX1_unitsUpTo_41 : decode cX1_unitsUpTo 41 = .ok (.iload 5, 2) := by decide +kernel
theorem dX1_unitsUpTo_43 : decode cX1_unitsUpTo 43 = .ok (.iaload, 1) := by decide +kernel
theorem dX1_unitsUpTo_44 : decode cX1_unitsUpTo 44 = .ok (.iload_n 3, 1) := by decide +kernel
theorem dX1_unitsUpTo_45 : decode cX1_unitsUpTo 45 = .ok (.if_icmp .gt 15, 3) := by decide +kernel
theorem dX1_unitsUpTo_48 : decode cX1_unitsUpTo 48 = .ok (.iload 4, 2) := by decide +kernel
theorem dX1_unitsUpTo_50 : decode cX1_unitsUpTo 50 = .ok (.aload_n 0, 1) := by decide +kernel
theorem dX1_unitsUpTo_51 : decode cX1_unitsUpTo 51 = .ok (.getfield 18, 3) := by decide +kernel
theorem dX1_unitsUpTo_54 : decode cX1_unitsUpTo 54 = .ok (.iload 5, 2) := by decide +kernel
theorem dX1_unitsUpTo_56 : decode cX1_unitsUpTo 56 = .ok (.iaload, 1) := by decide +kernel
theorem dX1_unitsUpTo_57 : decode cX1_unitsUpTo 57 = .ok (.iadd, 1) := by decide +kernel
theorem dX1_unitsUpTo_58 : decode cX1_unitsUpTo 58 = .ok (.istore 4, 2) := by decide +kernel
theorem dX1_unitsUpTo_60 : decode cX1_unitsUpTo 60 = .ok (.iinc 5 1, 3) := by decide +kernel
theorem dX1_unitsUpTo_63 : decode cX1_unitsUpTo 63 = .ok (.goto (-57), 3) := by decide +kernel
theorem dX1_unitsUpTo_66 : decode cX1_unitsUpTo 66 = .ok (.iload 4, 2) := by decide +kernel
theorem dX1_unitsUpTo_68 : decode cX1_unitsUpTo 68 = .ok (.ireturn, 1) := by decide +kernel
theorem dX1_freeAt_0 : decode cX1_freeAt 0 = .ok (.aload_n 0, 1) := by decide +kernel
theorem dX1_freeAt_1 : decode cX1_freeAt 1 = .ok (.iload_n 1, 1) := by decide +kernel
theorem dX1_freeAt_2 : decode cX1_freeAt 2 = .ok (.iload_n 2, 1) := by decide +kernel
theorem dX1_freeAt_3 : decode cX1_freeAt 3 = .ok (.iconst 0, 1) := by decide +kernel
theorem dX1_freeAt_4 : decode cX1_freeAt 4 = .ok (.invokevirtual 36, 3) := by decide +kernel
theorem dX1_freeAt_7 : decode cX1_freeAt 7 = .ok (.ireturn, 1) := by decide +kernel
theorem dX1_freeFrom_0 : decode cX1_freeFrom 0 = .ok (.iconst 0, 1) := by decide +kernel
theorem dX1_freeFrom_1 : decode cX1_freeFrom 1 = .ok (.istore 4, 2) := by decide +kernel
theorem dX1_freeFrom_3 : decode cX1_freeFrom 3 = .ok (.iconst 0, 1) := by decide +kernel
theorem dX1_freeFrom_4 : decode cX1_freeFrom 4 = .ok (.istore 5, 2) := by decide +kernel
theorem dX1_freeFrom_6 : decode cX1_freeFrom 6 = .ok (.iload 5, 2) := by decide +kernel
theorem dX1_freeFrom_8 : decode cX1_freeFrom 8 = .ok (.aload_n 0, 1) := by decide +kernel
theorem dX1_freeFrom_9 : decode cX1_freeFrom 9 = .ok (.getfield 27, 3) := by decide +kernel
theorem dX1_freeFrom_12 : decode cX1_freeFrom 12 = .ok (.if_icmp .ge 53, 3) := by decide +kernel
theorem dX1_freeFrom_15 : decode cX1_freeFrom 15 = .ok (.aload_n 0, 1) := by decide +kernel
theorem dX1_freeFrom_16 : decode cX1_freeFrom 16 = .ok (.getfield 9, 3) := by decide +kernel
theorem dX1_freeFrom_19 : decode cX1_freeFrom 19 = .ok (.iload 5, 2) := by decide +kernel
theorem dX1_freeFrom_21 : decode cX1_freeFrom 21 = .ok (.iaload, 1) := by decide +kernel
theorem dX1_freeFrom_22 : decode cX1_freeFrom 22 = .ok (.iload_n 1, 1) := by decide +kernel
theorem dX1_freeFrom_23 : decode cX1_freeFrom 23 = .ok (.if_icmp .ne 36, 3) := by decide +kernel
theorem dX1_freeFrom_26 : decode cX1_freeFrom 26 = .ok (.aload_n 0, 1) := by decide +kernel
theorem dX1_freeFrom_27 : decode cX1_freeFrom 27 = .ok (.getfield 15, 3) := by decide +kernel
theorem dX1_freeFrom_30 : decode cX1_freeFrom 30 = .ok (.iload 5, 2) := by decide +kernel
theorem dX1_freeFrom_32 : decode cX1_freeFrom 32 = .ok (.iaload, 1) := by decide +kernel
theorem dX1_freeFrom_33 : decode cX1_freeFrom 33 = .ok (.iload_n 2, 1) := by decide +kernel
theorem dX1_freeFrom_34 : decode cX1_freeFrom 34 = .ok (.if_icmp .ne 25, 3) := by decide +kernel
theorem dX1_freeFrom_37 : decode cX1_freeFrom 37 = .ok (.aload_n 0, 1) := by decide +kernel
theorem dX1_freeFrom_38 : decode cX1_freeFrom 38 = .ok (.getfield 24, 3) := by decide +kernel
theorem dX1_freeFrom_41 : decode cX1_freeFrom 41 = .ok (.iload 5, 2) := by decide +kernel
theorem dX1_freeFrom_43 : decode cX1_freeFrom 43 = .ok (.iaload, 1) := by decide +kernel
theorem dX1_freeFrom_44 : decode cX1_freeFrom 44 = .ok (.iload_n 3, 1) := by decide +kernel
theorem dX1_freeFrom_45 : decode cX1_freeFrom 45 = .ok (.if_icmp .lt 14, 3) := by decide +kernel
theorem dX1_freeFrom_48 : decode cX1_freeFrom 48 = .ok (.iload 4, 2) := by decide +kernel
theorem dX1_freeFrom_50 : decode cX1_freeFrom 50 = .ok (.aload_n 0, 1) := by decide +kernel
theorem dX1_freeFrom_51 : decode cX1_freeFrom 51 = .ok (.iload 5, 2) := by decide +kernel
theorem dX1_freeFrom_53 : decode cX1_freeFrom 53 = .ok (.invokevirtual 39, 3) := by decide +kernel
theorem dX1_freeFrom_56 : decode cX1_freeFrom 56 = .ok (.iadd, 1) := by decide +kernel
theorem dX1_freeFrom_57 : decode cX1_freeFrom 57 = .ok (.istore 4, 2) := by decide +kernel
theorem dX1_freeFrom_59 : decode cX1_freeFrom 59 = .ok (.iinc 5 1, 3) := by decide +kernel
theorem dX1_freeFrom_62 : decode cX1_freeFrom 62 = .ok (.goto (-56), 3) := by decide +kernel
theorem dX1_freeFrom_65 : decode cX1_freeFrom 65 = .ok (.iload 4, 2) := by decide +kernel
theorem dX1_freeFrom_67 : decode cX1_freeFrom 67 = .ok (.ireturn, 1) := by decide +kernel
theorem dX1_allUnitsAt_0 : decode cX1_allUnitsAt 0 = .ok (.iconst 0, 1) := by decide +kernel
theorem dX1_allUnitsAt_1 : decode cX1_allUnitsAt 1 = .ok (.istore_n 2, 1) := by decide +kernel
theorem dX1_allUnitsAt_2 : decode cX1_allUnitsAt 2 = .ok (.iconst 0, 1) := by decide +kernel
theorem dX1_allUnitsAt_3 : decode cX1_allUnitsAt 3 = .ok (.istore_n 3, 1) := by decide +kernel
theorem dX1_allUnitsAt_4 : decode cX1_allUnitsAt 4 = .ok (.iload_n 3, 1) := by decide +kernel
theorem dX1_allUnitsAt_5 : decode cX1_allUnitsAt 5 = .ok (.aload_n 0, 1) := by decide +kernel
theorem dX1_allUnitsAt_6 : decode cX1_allUnitsAt 6 = .ok (.getfield 27, 3) := by decide +kernel
theorem dX1_allUnitsAt_9 : decode cX1_allUnitsAt 9 = .ok (.if_icmp .ge 28, 3) := by decide +kernel
theorem dX1_allUnitsAt_12 : decode cX1_allUnitsAt 12 = .ok (.aload_n 0, 1) := by decide +kernel
theorem dX1_allUnitsAt_13 : decode cX1_allUnitsAt 13 = .ok (.getfield 15, 3) := by decide +kernel
theorem dX1_allUnitsAt_16 : decode cX1_allUnitsAt 16 = .ok (.iload_n 3, 1) := by decide +kernel
theorem dX1_allUnitsAt_17 : decode cX1_allUnitsAt 17 = .ok (.iaload, 1) := by decide +kernel
theorem dX1_allUnitsAt_18 : decode cX1_allUnitsAt 18 = .ok (.iload_n 1, 1) := by decide +kernel
theorem dX1_allUnitsAt_19 : decode cX1_allUnitsAt 19 = .ok (.if_icmp .ne 12, 3) := by decide +kernel
theorem dX1_allUnitsAt_22 : decode cX1_allUnitsAt 22 = .ok (.iload_n 2, 1) := by decide +kernel
theorem dX1_allUnitsAt_23 : decode cX1_allUnitsAt 23 = .ok (.aload_n 0, 1) := by decide +kernel
theorem dX1_allUnitsAt_24 : decode cX1_allUnitsAt 24 = .ok (.getfield 18, 3) := by decide +kernel
theorem dX1_allUnitsAt_27 : decode cX1_allUnitsAt 27 = .ok (.iload_n 3, 1) := by decide +kernel
theorem dX1_allUnitsAt_28 : decode cX1_allUnitsAt 28 = .ok (.iaload, 1) := by decide +kernel
theorem dX1_allUnitsAt_29 : decode cX1_allUnitsAt 29 = .ok (.iadd, 1) := by decide +kernel
theorem dX1_allUnitsAt_30 : decode cX1_allUnitsAt 30 = .ok (.istore_n 2, 1) := by decide +kernel
theorem dX1_allUnitsAt_31 : decode cX1_allUnitsAt 31 = .ok (.iinc 3 1, 3) := by decide +kernel
theorem dX1_allUnitsAt_34 : decode cX1_allUnitsAt 34 = .ok (.goto (-30), 3) := by decide +kernel
theorem dX1_allUnitsAt_37 : decode cX1_allUnitsAt 37 = .ok (.iload_n 2, 1) := by decide +kernel
theorem dX1_allUnitsAt_38 : decode cX1_allUnitsAt 38 = .ok (.ireturn, 1) := by decide +kernel
theorem dX2_has_0 : decode cX2_has 0 = .ok (.iload_n 1, 1) := by decide +kernel
theorem dX2_has_1 : decode cX2_has 1 = .ok (.ifCond .lt 15, 3) := by decide +kernel
theorem dX2_has_4 : decode cX2_has 4 = .ok (.iload_n 1, 1) := by decide +kernel
theorem dX2_has_5 : decode cX2_has 5 = .ok (.aload_n 0, 1) := by decide +kernel
theorem dX2_has_6 : decode cX2_has 6 = .ok (.getfield 42, 3) := by decide +kernel
theorem dX2_has_9 : decode cX2_has 9 = .ok (.if_icmp .ge 7, 3) := by decide +kernel
theorem dX2_has_12 : decode cX2_has 12 = .ok (.iconst 1, 1) := by decide +kernel
theorem dX2_has_13 : decode cX2_has 13 = .ok (.goto 4, 3) := by decide +kernel
theorem dX2_has_16 : decode cX2_has 16 = .ok (.iconst 0, 1) := by decide +kernel
theorem dX2_has_17 : decode cX2_has 17 = .ok (.ireturn, 1) := by decide +kernel
theorem dX2_heldOf_0 : decode cX2_heldOf 0 = .ok (.aload_n 0, 1) := by decide +kernel
theorem dX2_heldOf_1 : decode cX2_heldOf 1 = .ok (.getfield 39, 3) := by decide +kernel
theorem dX2_heldOf_4 : decode cX2_heldOf 4 = .ok (.iload_n 1, 1) := by decide +kernel
theorem dX2_heldOf_5 : decode cX2_heldOf 5 = .ok (.sipush 200, 3) := by decide +kernel
theorem dX2_heldOf_8 : decode cX2_heldOf 8 = .ok (.imul, 1) := by decide +kernel
theorem dX2_heldOf_9 : decode cX2_heldOf 9 = .ok (.iload_n 2, 1) := by decide +kernel
theorem dX2_heldOf_10 : decode cX2_heldOf 10 = .ok (.iadd, 1) := by decide +kernel
theorem dX2_heldOf_11 : decode cX2_heldOf 11 = .ok (.iaload, 1) := by decide +kernel
theorem dX2_heldOf_12 : decode cX2_heldOf 12 = .ok (.ireturn, 1) := by decide +kernel
theorem dX2_missing_0 : decode cX2_missing 0 = .ok (.aload_n 0, 1) := by decide +kernel
theorem dX2_missing_1 : decode cX2_missing 1 = .ok (.getfield 18, 3) := by decide +kernel
theorem dX2_missing_4 : decode cX2_missing 4 = .ok (.iload_n 1, 1) := by decide +kernel
theorem dX2_missing_5 : decode cX2_missing 5 = .ok (.iaload, 1) := by decide +kernel
theorem dX2_missing_6 : decode cX2_missing 6 = .ok (.aload_n 0, 1) := by decide +kernel
theorem dX2_missing_7 : decode cX2_missing 7 = .ok (.getfield 21, 3) := by decide +kernel
theorem dX2_missing_10 : decode cX2_missing 10 = .ok (.iload_n 1, 1) := by decide +kernel
theorem dX2_missing_11 : decode cX2_missing 11 = .ok (.iaload, 1) := by decide +kernel
theorem dX2_missing_12 : decode cX2_missing 12 = .ok (.isub, 1) := by decide +kernel
theorem dX2_missing_13 : decode cX2_missing 13 = .ok (.ireturn, 1) := by decide +kernel
theorem dX2_isFrom_0 : decode cX2_isFrom 0 = .ok (.aload_n 0, 1) := by decide +kernel
theorem dX2_isFrom_1 : decode cX2_isFrom 1 = .ok (.getfield 9, 3) := by decide +kernel
theorem dX2_isFrom_4 : decode cX2_isFrom 4 = .ok (.iload_n 1, 1) := by decide +kernel
theorem dX2_isFrom_5 : decode cX2_isFrom 5 = .ok (.iaload, 1) := by decide +kernel
theorem dX2_isFrom_6 : decode cX2_isFrom 6 = .ok (.iload_n 2, 1) := by decide +kernel
theorem dX2_isFrom_7 : decode cX2_isFrom 7 = .ok (.if_icmp .ne 17, 3) := by decide +kernel
theorem dX2_isFrom_10 : decode cX2_isFrom 10 = .ok (.aload_n 0, 1) := by decide +kernel
theorem dX2_isFrom_11 : decode cX2_isFrom 11 = .ok (.getfield 15, 3) := by decide +kernel
theorem dX2_isFrom_14 : decode cX2_isFrom 14 = .ok (.iload_n 1, 1) := by decide +kernel
theorem dX2_isFrom_15 : decode cX2_isFrom 15 = .ok (.iaload, 1) := by decide +kernel
theorem dX2_isFrom_16 : decode cX2_isFrom 16 = .ok (.iload_n 3, 1) := by decide +kernel
theorem dX2_isFrom_17 : decode cX2_isFrom 17 = .ok (.if_icmp .ne 7, 3) := by decide +kernel
theorem dX2_isFrom_20 : decode cX2_isFrom 20 = .ok (.iconst 1, 1) := by decide +kernel
theorem dX2_isFrom_21 : decode cX2_isFrom 21 = .ok (.goto 4, 3) := by decide +kernel
theorem dX2_isFrom_24 : decode cX2_isFrom 24 = .ok (.iconst 0, 1) := by decide +kernel
theorem dX2_isFrom_25 : decode cX2_isFrom 25 = .ok (.ireturn, 1) := by decide +kernel
theorem dX2_comesAhead_0 : decode cX2_comesAhead 0 = .ok (.aload_n 0, 1) := by decide +kernel
theorem dX2_comesAhead_1 : decode cX2_comesAhead 1 = .ok (.getfield 27, 3) := by decide +kernel
theorem dX2_comesAhead_4 : decode cX2_comesAhead 4 = .ok (.iload_n 1, 1) := by decide +kernel
theorem dX2_comesAhead_5 : decode cX2_comesAhead 5 = .ok (.iaload, 1) := by decide +kernel
theorem dX2_comesAhead_6 : decode cX2_comesAhead 6 = .ok (.aload_n 0, 1) := by decide +kernel
theorem dX2_comesAhead_7 : decode cX2_comesAhead 7 = .ok (.getfield 27, 3) := by decide +kernel
theorem dX2_comesAhead_10 : decode cX2_comesAhead 10 = .ok (.iload_n 2, 1) := by decide +kernel
theorem dX2_comesAhead_11 : decode cX2_comesAhead 11 = .ok (.iaload, 1) := by decide +kernel
theorem dX2_comesAhead_12 : decode cX2_comesAhead 12 = .ok (.if_icmp .eq 24, 3) := by decide +kernel
theorem dX2_comesAhead_15 : decode cX2_comesAhead 15 = .ok (.aload_n 0, 1) := by decide +kernel
theorem dX2_comesAhead_16 : decode cX2_comesAhead 16 = .ok (.getfield 27, 3) := by decide +kernel
theorem dX2_comesAhead_19 : decode cX2_comesAhead 19 = .ok (.iload_n 1, 1) := by decide +kernel
theorem dX2_comesAhead_20 : decode cX2_comesAhead 20 = .ok (.iaload, 1) := by decide +kernel
theorem dX2_comesAhead_21 : decode cX2_comesAhead 21 = .ok (.aload_n 0, 1) := by decide +kernel
theorem dX2_comesAhead_22 : decode cX2_comesAhead 22 = .ok (.getfield 27, 3) := by decide +kernel
theorem dX2_comesAhead_25 : decode cX2_comesAhead 25 = .ok (.iload_n 2, 1) := by decide +kernel
theorem dX2_comesAhead_26 : decode cX2_comesAhead 26 = .ok (.iaload, 1) := by decide +kernel
theorem dX2_comesAhead_27 : decode cX2_comesAhead 27 = .ok (.if_icmp .ge 7, 3) := by decide +kernel
theorem dX2_comesAhead_30 : decode cX2_comesAhead 30 = .ok (.iconst 1, 1) := by decide +kernel
theorem dX2_comesAhead_31 : decode cX2_comesAhead 31 = .ok (.goto 4, 3) := by decide +kernel
theorem dX2_comesAhead_34 : decode cX2_comesAhead 34 = .ok (.iconst 0, 1) := by decide +kernel
theorem dX2_comesAhead_35 : decode cX2_comesAhead 35 = .ok (.ireturn, 1) := by decide +kernel
theorem dX2_comesAhead_36 : decode cX2_comesAhead 36 = .ok (.aload_n 0, 1) := by decide +kernel
theorem dX2_comesAhead_37 : decode cX2_comesAhead 37 = .ok (.getfield 24, 3) := by decide +kernel
theorem dX2_comesAhead_40 : decode cX2_comesAhead 40 = .ok (.iload_n 1, 1) := by decide +kernel
theorem dX2_comesAhead_41 : decode cX2_comesAhead 41 = .ok (.iaload, 1) := by decide +kernel
theorem dX2_comesAhead_42 : decode cX2_comesAhead 42 = .ok (.aload_n 0, 1) := by decide +kernel
theorem dX2_comesAhead_43 : decode cX2_comesAhead 43 = .ok (.getfield 24, 3) := by decide +kernel
theorem dX2_comesAhead_46 : decode cX2_comesAhead 46 = .ok (.iload_n 2, 1) := by decide +kernel
theorem dX2_comesAhead_47 : decode cX2_comesAhead 47 = .ok (.iaload, 1) := by decide +kernel
theorem dX2_comesAhead_48 : decode cX2_comesAhead 48 = .ok (.if_icmp .eq 24, 3) := by decide +kernel
theorem dX2_comesAhead_51 : decode cX2_comesAhead 51 = .ok (.aload_n 0, 1) := by decide +kernel
theorem dX2_comesAhead_52 : decode cX2_comesAhead 52 = .ok (.getfield 24, 3) := by decide +kernel
theorem dX2_comesAhead_55 : decode cX2_comesAhead 55 = .ok (.iload_n 1, 1) := by decide +kernel
theorem dX2_comesAhead_56 : decode cX2_comesAhead 56 = .ok (.iaload, 1) := by decide +kernel
theorem dX2_comesAhead_57 : decode cX2_comesAhead 57 = .ok (.aload_n 0, 1) := by decide +kernel
theorem dX2_comesAhead_58 : decode cX2_comesAhead 58 = .ok (.getfield 24, 3) := by decide +kernel
theorem dX2_comesAhead_61 : decode cX2_comesAhead 61 = .ok (.iload_n 2, 1) := by decide +kernel
theorem dX2_comesAhead_62 : decode cX2_comesAhead 62 = .ok (.iaload, 1) := by decide +kernel
theorem dX2_comesAhead_63 : decode cX2_comesAhead 63 = .ok (.if_icmp .ge 7, 3) := by decide +kernel
theorem dX2_comesAhead_66 : decode cX2_comesAhead 66 = .ok (.iconst 1, 1) := by decide +kernel
theorem dX2_comesAhead_67 : decode cX2_comesAhead 67 = .ok (.goto 4, 3) := by decide +kernel
theorem dX2_comesAhead_70 : decode cX2_comesAhead 70 = .ok (.iconst 0, 1) := by decide +kernel
theorem dX2_comesAhead_71 : decode cX2_comesAhead 71 = .ok (.ireturn, 1) := by decide +kernel
theorem dX2_comesAhead_72 : decode cX2_comesAhead 72 = .ok (.iload_n 1, 1) := by decide +kernel
theorem dX2_comesAhead_73 : decode cX2_comesAhead 73 = .ok (.iload_n 2, 1) := by decide +kernel
theorem dX2_comesAhead_74 : decode cX2_comesAhead 74 = .ok (.if_icmp .ge 7, 3) := by decide +kernel
theorem dX2_comesAhead_77 : decode cX2_comesAhead 77 = .ok (.iconst 1, 1) := by decide +kernel
theorem dX2_comesAhead_78 : decode cX2_comesAhead 78 = .ok (.goto 4, 3) := by decide +kernel
theorem dX2_comesAhead_81 : decode cX2_comesAhead 81 = .ok (.iconst 0, 1) := by decide +kernel
theorem dX2_comesAhead_82 : decode cX2_comesAhead 82 = .ok (.ireturn, 1) := by decide +kernel
theorem dX2_openUnitsFrom_0 : decode cX2_openUnitsFrom 0 = .ok (.iconst 0, 1) := by decide +kernel
theorem dX2_openUnitsFrom_1 : decode cX2_openUnitsFrom 1 = .ok (.istore_n 3, 1) := by decide +kernel
theorem dX2_openUnitsFrom_2 : decode cX2_openUnitsFrom 2 = .ok (.iconst 0, 1) := by decide +kernel
theorem dX2_openUnitsFrom_3 : decode cX2_openUnitsFrom 3 = .ok (.istore 4, 2) := by decide +kernel
theorem dX2_openUnitsFrom_5 : decode cX2_openUnitsFrom 5 = .ok (.iload 4, 2) := by decide +kernel
theorem dX2_openUnitsFrom_7 : decode cX2_openUnitsFrom 7 = .ok (.aload_n 0, 1) := by decide +kernel
theorem dX2_openUnitsFrom_8 : decode cX2_openUnitsFrom 8 = .ok (.getfield 42, 3) := by decide +kernel
theorem dX2_openUnitsFrom_11 : decode cX2_openUnitsFrom 11 = .ok (.if_icmp .ge 40, 3) := by decide +kernel
theorem dX2_openUnitsFrom_14 : decode cX2_openUnitsFrom 14 = .ok (.aload_n 0, 1) := by decide +kernel
theorem dX2_openUnitsFrom_15 : decode cX2_openUnitsFrom 15 = .ok (.getfield 33, 3) := by decide +kernel
theorem dX2_openUnitsFrom_18 : decode cX2_openUnitsFrom 18 = .ok (.iload 4, 2) := by decide +kernel
theorem dX2_openUnitsFrom_20 : decode cX2_openUnitsFrom 20 = .ok (.iaload, 1) := by decide +kernel
theorem dX2_openUnitsFrom_21 : decode cX2_openUnitsFrom 21 = .ok (.ifCond .ne 24, 3) := by decide +kernel
theorem dX2_openUnitsFrom_24 : decode cX2_openUnitsFrom 24 = .ok (.aload_n 0, 1) := by decide +kernel
theorem dX2_openUnitsFrom_25 : decode cX2_openUnitsFrom 25 = .ok (.iload 4, 2) := by decide +kernel
theorem dX2_openUnitsFrom_27 : decode cX2_openUnitsFrom 27 = .ok (.iload_n 1, 1) := by decide +kernel
theorem dX2_openUnitsFrom_28 : decode cX2_openUnitsFrom 28 = .ok (.iload_n 2, 1) := by decide +kernel
theorem dX2_openUnitsFrom_29 : decode cX2_openUnitsFrom 29 = .ok (.invokevirtual 46, 3) := by decide +kernel
theorem dX2_openUnitsFrom_32 : decode cX2_openUnitsFrom 32 = .ok (.ifCond .eq 13, 3) := by decide +kernel
theorem dX2_openUnitsFrom_35 : decode cX2_openUnitsFrom 35 = .ok (.iload_n 3, 1) := by decide +kernel
theorem dX2_openUnitsFrom_36 : decode cX2_openUnitsFrom 36 = .ok (.aload_n 0, 1) := by decide +kernel
theorem dX2_openUnitsFrom_37 : decode cX2_openUnitsFrom 37 = .ok (.getfield 18, 3) := by decide +kernel
theorem dX2_openUnitsFrom_40 : decode cX2_openUnitsFrom 40 = .ok (.iload 4, 2) := by decide +kernel
theorem dX2_openUnitsFrom_42 : decode cX2_openUnitsFrom 42 = .ok (.iaload, 1) := by decide +kernel
theorem dX2_openUnitsFrom_43 : decode cX2_openUnitsFrom 43 = .ok (.iadd, 1) := by decide +kernel
theorem dX2_openUnitsFrom_44 : decode cX2_openUnitsFrom 44 = .ok (.istore_n 3, 1) := by decide +kernel
theorem dX2_openUnitsFrom_45 : decode cX2_openUnitsFrom 45 = .ok (.iinc 4 1, 3) := by decide +kernel
theorem dX2_openUnitsFrom_48 : decode cX2_openUnitsFrom 48 = .ok (.goto (-43), 3) := by decide +kernel
theorem dX2_openUnitsFrom_51 : decode cX2_openUnitsFrom 51 = .ok (.iload_n 3, 1) := by decide +kernel
theorem dX2_openUnitsFrom_52 : decode cX2_openUnitsFrom 52 = .ok (.ireturn, 1) := by decide +kernel
theorem dX2_useWithin_0 : decode cX2_useWithin 0 = .ok (.iconst 0, 1) := by decide +kernel
theorem dX2_useWithin_1 : decode cX2_useWithin 1 = .ok (.istore 5, 2) := by decide +kernel
theorem dX2_useWithin_3 : decode cX2_useWithin 3 = .ok (.iconst 0, 1) := by decide +kernel
theorem dX2_useWithin_4 : decode cX2_useWithin 4 = .ok (.istore 6, 2) := by decide +kernel
theorem dX2_useWithin_6 : decode cX2_useWithin 6 = .ok (.iload 6, 2) := by decide +kernel
theorem dX2_useWithin_8 : decode cX2_useWithin 8 = .ok (.aload_n 0, 1) := by decide +kernel
theorem dX2_useWithin_9 : decode cX2_useWithin 9 = .ok (.getfield 42, 3) := by decide +kernel
theorem dX2_useWithin_12 : decode cX2_useWithin 12 = .ok (.if_icmp .ge 66, 3) := by decide +kernel
theorem dX2_useWithin_15 : decode cX2_useWithin 15 = .ok (.aload_n 0, 1) := by decide +kernel
theorem dX2_useWithin_16 : decode cX2_useWithin 16 = .ok (.getfield 33, 3) := by decide +kernel
theorem dX2_useWithin_19 : decode cX2_useWithin 19 = .ok (.iload 6, 2) := by decide +kernel
theorem dX2_useWithin_21 : decode cX2_useWithin 21 = .ok (.iaload, 1) := by decide +kernel
theorem dX2_useWithin_22 : decode cX2_useWithin 22 = .ok (.iconst 2, 1) := by decide +kernel
theorem dX2_useWithin_23 : decode cX2_useWithin 23 = .ok (.if_icmp .eq 49, 3) := by decide +kernel
theorem dX2_useWithin_26 : decode cX2_useWithin 26 = .ok (.aload_n 0, 1) := by decide +kernel
theorem dX2_useWithin_27 : decode cX2_useWithin 27 = .ok (.iload 6, 2) := by decide +kernel
theorem dX2_useWithin_29 : decode cX2_useWithin 29 = .ok (.iload_n 1, 1) := by decide +kernel
theorem dX2_useWithin_30 : decode cX2_useWithin 30 = .ok (.iload_n 2, 1) := by decide +kernel
theorem dX2_useWithin_31 : decode cX2_useWithin 31 = .ok (.invokevirtual 46, 3) := by decide +kernel
theorem dX2_useWithin_34 : decode cX2_useWithin 34 = .ok (.ifCond .eq 38, 3) := by decide +kernel
theorem dX2_useWithin_37 : decode cX2_useWithin 37 = .ok (.aload_n 0, 1) := by decide +kernel
theorem dX2_useWithin_38 : decode cX2_useWithin 38 = .ok (.getfield 24, 3) := by decide +kernel
theorem dX2_useWithin_41 : decode cX2_useWithin 41 = .ok (.iload 6, 2) := by decide +kernel
theorem dX2_useWithin_43 : decode cX2_useWithin 43 = .ok (.iaload, 1) := by decide +kernel
theorem dX2_useWithin_44 : decode cX2_useWithin 44 = .ok (.iload_n 3, 1) := by decide +kernel
theorem dX2_useWithin_45 : decode cX2_useWithin 45 = .ok (.if_icmp .lt 27, 3) := by decide +kernel
theorem dX2_useWithin_48 : decode cX2_useWithin 48 = .ok (.aload_n 0, 1) := by decide +kernel
theorem dX2_useWithin_49 : decode cX2_useWithin 49 = .ok (.getfield 24, 3) := by decide +kernel
theorem dX2_useWithin_52 : decode cX2_useWithin 52 = .ok (.iload 6, 2) := by decide +kernel
theorem dX2_useWithin_54 : decode cX2_useWithin 54 = .ok (.iaload, 1) := by decide +kernel
theorem dX2_useWithin_55 : decode cX2_useWithin 55 = .ok (.iload 4, 2) := by decide +kernel
theorem dX2_useWithin_57 : decode cX2_useWithin 57 = .ok (.if_icmp .gt 15, 3) := by decide +kernel
theorem dX2_useWithin_60 : decode cX2_useWithin 60 = .ok (.iload 5, 2) := by decide +kernel
theorem dX2_useWithin_62 : decode cX2_useWithin 62 = .ok (.aload_n 0, 1) := by decide +kernel
theorem dX2_useWithin_63 : decode cX2_useWithin 63 = .ok (.getfield 18, 3) := by decide +kernel
theorem dX2_useWithin_66 : decode cX2_useWithin 66 = .ok (.iload 6, 2) := by decide +kernel
theorem dX2_useWithin_68 : decode cX2_useWithin 68 = .ok (.iaload, 1) := by decide +kernel
theorem dX2_useWithin_69 : decode cX2_useWithin 69 = .ok (.iadd, 1) := by decide +kernel
theorem dX2_useWithin_70 : decode cX2_useWithin 70 = .ok (.istore 5, 2) := by decide +kernel
theorem dX2_useWithin_72 : decode cX2_useWithin 72 = .ok (.iinc 6 1, 3) := by decide +kernel
theorem dX2_useWithin_75 : decode cX2_useWithin 75 = .ok (.goto (-69), 3) := by decide +kernel
theorem dX2_useWithin_78 : decode cX2_useWithin 78 = .ok (.iload 5, 2) := by decide +kernel
theorem dX2_useWithin_80 : decode cX2_useWithin 80 = .ok (.ireturn, 1) := by decide +kernel
theorem dX2_allReserved_0 : decode cX2_allReserved 0 = .ok (.iconst 0, 1) := by decide +kernel
theorem dX2_allReserved_1 : decode cX2_allReserved 1 = .ok (.istore_n 1, 1) := by decide +kernel
theorem dX2_allReserved_2 : decode cX2_allReserved 2 = .ok (.iconst 0, 1) := by decide +kernel
theorem dX2_allReserved_3 : decode cX2_allReserved 3 = .ok (.istore_n 2, 1) := by decide +kernel
theorem dX2_allReserved_4 : decode cX2_allReserved 4 = .ok (.iload_n 2, 1) := by decide +kernel
theorem dX2_allReserved_5 : decode cX2_allReserved 5 = .ok (.aload_n 0, 1) := by decide +kernel
theorem dX2_allReserved_6 : decode cX2_allReserved 6 = .ok (.getfield 42, 3) := by decide +kernel
theorem dX2_allReserved_9 : decode cX2_allReserved 9 = .ok (.if_icmp .ge 18, 3) := by decide +kernel
theorem dX2_allReserved_12 : decode cX2_allReserved 12 = .ok (.iload_n 1, 1) := by decide +kernel
theorem dX2_allReserved_13 : decode cX2_allReserved 13 = .ok (.aload_n 0, 1) := by decide +kernel
theorem dX2_allReserved_14 : decode cX2_allReserved 14 = .ok (.getfield 21, 3) := by decide +kernel
theorem dX2_allReserved_17 : decode cX2_allReserved 17 = .ok (.iload_n 2, 1) := by decide +kernel
theorem dX2_allReserved_18 : decode cX2_allReserved 18 = .ok (.iaload, 1) := by decide +kernel
theorem dX2_allReserved_19 : decode cX2_allReserved 19 = .ok (.iadd, 1) := by decide +kernel
theorem dX2_allReserved_20 : decode cX2_allReserved 20 = .ok (.istore_n 1, 1) := by decide +kernel
theorem dX2_allReserved_21 : decode cX2_allReserved 21 = .ok (.iinc 2 1, 3) := by decide +kernel
theorem dX2_allReserved_24 : decode cX2_allReserved 24 = .ok (.goto (-20), 3) := by decide +kernel
theorem dX2_allReserved_27 : decode cX2_allReserved 27 = .ok (.iload_n 1, 1) := by decide +kernel
theorem dX2_allReserved_28 : decode cX2_allReserved 28 = .ok (.ireturn, 1) := by decide +kernel
theorem dX5_has_0 : decode cX5_has 0 = .ok (.iload_n 1, 1) := by decide +kernel
theorem dX5_has_1 : decode cX5_has 1 = .ok (.ifCond .lt 15, 3) := by decide +kernel
theorem dX5_has_4 : decode cX5_has 4 = .ok (.iload_n 1, 1) := by decide +kernel
theorem dX5_has_5 : decode cX5_has 5 = .ok (.aload_n 0, 1) := by decide +kernel
theorem dX5_has_6 : decode cX5_has 6 = .ok (.getfield 18, 3) := by decide +kernel
theorem dX5_has_9 : decode cX5_has 9 = .ok (.if_icmp .ge 7, 3) := by decide +kernel
theorem dX5_has_12 : decode cX5_has 12 = .ok (.iconst 1, 1) := by decide +kernel
theorem dX5_has_13 : decode cX5_has 13 = .ok (.goto 4, 3) := by decide +kernel
theorem dX5_has_16 : decode cX5_has 16 = .ok (.iconst 0, 1) := by decide +kernel
theorem dX5_has_17 : decode cX5_has 17 = .ok (.ireturn, 1) := by decide +kernel
theorem dX7_full_0 : decode cX7_full 0 = .ok (.aload_n 0, 1) := by decide +kernel
theorem dX7_full_1 : decode cX7_full 1 = .ok (.getfield 30, 3) := by decide +kernel
theorem dX7_full_4 : decode cX7_full 4 = .ok (.bipush 90, 2) := by decide +kernel
theorem dX7_full_6 : decode cX7_full 6 = .ok (.if_icmp .lt 7, 3) := by decide +kernel
theorem dX7_full_9 : decode cX7_full 9 = .ok (.iconst 1, 1) := by decide +kernel
theorem dX7_full_10 : decode cX7_full 10 = .ok (.goto 4, 3) := by decide +kernel
theorem dX7_full_13 : decode cX7_full 13 = .ok (.iconst 0, 1) := by decide +kernel
theorem dX7_full_14 : decode cX7_full 14 = .ok (.ireturn, 1) := by decide +kernel
theorem dX7_unitsTo_0 : decode cX7_unitsTo 0 = .ok (.iconst 0, 1) := by decide +kernel
theorem dX7_unitsTo_1 : decode cX7_unitsTo 1 = .ok (.istore_n 3, 1) := by decide +kernel
theorem dX7_unitsTo_2 : decode cX7_unitsTo 2 = .ok (.iconst 0, 1) := by decide +kernel
theorem dX7_unitsTo_3 : decode cX7_unitsTo 3 = .ok (.istore 4, 2) := by decide +kernel
theorem dX7_unitsTo_5 : decode cX7_unitsTo 5 = .ok (.iload 4, 2) := by decide +kernel
theorem dX7_unitsTo_7 : decode cX7_unitsTo 7 = .ok (.aload_n 0, 1) := by decide +kernel
theorem dX7_unitsTo_8 : decode cX7_unitsTo 8 = .ok (.getfield 30, 3) := by decide +kernel
theorem dX7_unitsTo_11 : decode cX7_unitsTo 11 = .ok (.if_icmp .ge 52, 3) := by decide +kernel
theorem dX7_unitsTo_14 : decode cX7_unitsTo 14 = .ok (.aload_n 0, 1) := by decide +kernel
theorem dX7_unitsTo_15 : decode cX7_unitsTo 15 = .ok (.getfield 27, 3) := by decide +kernel
theorem dX7_unitsTo_18 : decode cX7_unitsTo 18 = .ok (.iload 4, 2) := by decide +kernel
theorem dX7_unitsTo_20 : decode cX7_unitsTo 20 = .ok (.iaload, 1) := by decide +kernel
theorem dX7_unitsTo_21 : decode cX7_unitsTo 21 = .ok (.iconst 1, 1) := by decide +kernel
theorem dX7_unitsTo_22 : decode cX7_unitsTo 22 = .ok (.if_icmp .ne 35, 3) := by decide +kernel
theorem dX7_unitsTo_25 : decode cX7_unitsTo 25 = .ok (.aload_n 0, 1) := by decide +kernel
theorem dX7_unitsTo_26 : decode cX7_unitsTo 26 = .ok (.getfield 9, 3) := by decide +kernel
theorem dX7_unitsTo_29 : decode cX7_unitsTo 29 = .ok (.iload 4, 2) := by decide +kernel
theorem dX7_unitsTo_31 : decode cX7_unitsTo 31 = .ok (.iaload, 1) := by decide +kernel
theorem dX7_unitsTo_32 : decode cX7_unitsTo 32 = .ok (.iload_n 1, 1) := by decide +kernel
theorem dX7_unitsTo_33 : decode cX7_unitsTo 33 = .ok (.if_icmp .ne 24, 3) := by decide +kernel
theorem dX7_unitsTo_36 : decode cX7_unitsTo 36 = .ok (.aload_n 0, 1) := by decide +kernel
theorem dX7_unitsTo_37 : decode cX7_unitsTo 37 = .ok (.getfield 15, 3) := by decide +kernel
theorem dX7_unitsTo_40 : decode cX7_unitsTo 40 = .ok (.iload 4, 2) := by decide +kernel
theorem dX7_unitsTo_42 : decode cX7_unitsTo 42 = .ok (.iaload, 1) := by decide +kernel
theorem dX7_unitsTo_43 : decode cX7_unitsTo 43 = .ok (.iload_n 2, 1) := by decide +kernel
theorem dX7_unitsTo_44 : decode cX7_unitsTo 44 = .ok (.if_icmp .ne 13, 3) := by decide +kernel
theorem dX7_unitsTo_47 : decode cX7_unitsTo 47 = .ok (.iload_n 3, 1) := by decide +kernel
theorem dX7_unitsTo_48 : decode cX7_unitsTo 48 = .ok (.aload_n 0, 1) := by decide +kernel
theorem dX7_unitsTo_49 : decode cX7_unitsTo 49 = .ok (.getfield 18, 3) := by decide +kernel
theorem dX7_unitsTo_52 : decode cX7_unitsTo 52 = .ok (.iload 4, 2) := by decide +kernel
theorem dX7_unitsTo_54 : decode cX7_unitsTo 54 = .ok (.iaload, 1) := by decide +kernel
theorem dX7_unitsTo_55 : decode cX7_unitsTo 55 = .ok (.iadd, 1) := by decide +kernel
theorem dX7_unitsTo_56 : decode cX7_unitsTo 56 = .ok (.istore_n 3, 1) := by decide +kernel
theorem dX7_unitsTo_57 : decode cX7_unitsTo 57 = .ok (.iinc 4 1, 3) := by decide +kernel
theorem dX7_unitsTo_60 : decode cX7_unitsTo 60 = .ok (.goto (-55), 3) := by decide +kernel
theorem dX7_unitsTo_63 : decode cX7_unitsTo 63 = .ok (.iload_n 3, 1) := by decide +kernel
theorem dX7_unitsTo_64 : decode cX7_unitsTo 64 = .ok (.ireturn, 1) := by decide +kernel
theorem dX8_pair_0 : decode cX8_pair 0 = .ok (.iload_n 0, 1) := by decide +kernel
theorem dX8_pair_1 : decode cX8_pair 1 = .ok (.iconst 5, 1) := by decide +kernel
theorem dX8_pair_2 : decode cX8_pair 2 = .ok (.imul, 1) := by decide +kernel
theorem dX8_pair_3 : decode cX8_pair 3 = .ok (.iload_n 1, 1) := by decide +kernel
theorem dX8_pair_4 : decode cX8_pair 4 = .ok (.iadd, 1) := by decide +kernel
theorem dX8_pair_5 : decode cX8_pair 5 = .ok (.ireturn, 1) := by decide +kernel
end
section
set_option maxRecDepth 20000 in
theorem ggX1_unitsAt_X1_unitsUpTo : GoodIn wsX1_unitsAt wsX1_unitsUpTo := goodIn_q _ [6] [7, 8, 9, 10, 11, 12, 13, 14, 15, 16, 17] rfl (by decide +kernel) (by decide +kernel)
set_option maxRecDepth 20000 in
theorem gX1_unitsAt_X1_unitsUpTo : GoodIn wsX1_unitsAt (wsV RX1 32 RX1 yX1_unitsUpTo wsX1_unitsUpTo) := goodIn_app (goodIn_of _ (by decide +kernel)) ggX1_unitsAt_X1_unitsUpTo
set_option maxRecDepth 20000 in
theorem ggX1_freeAt_X1_freeFrom : GoodIn wsX1_freeAt wsX1_freeFrom := goodIn_q _ [5, 13] [6, 7, 8, 9, 10, 11, 12, 4, 14, 15, 16, 17, 18, 19, 20, 21] rfl (by decide +kernel) (by decide +kernel)
set_option maxRecDepth 20000 in
theorem gX1_freeAt_X1_freeFrom : GoodIn wsX1_freeAt (wsV RX1 36 RX1 yX1_freeFrom wsX1_freeFrom) := goodIn_app (goodIn_of _ (by decide +kernel)) ggX1_freeAt_X1_freeFrom
set_option maxRecDepth 20000 in
theorem ggX1_freeFrom_X1_freeOf : GoodIn wsX1_freeFrom wsX1_freeOf := goodIn_q _ [9] [10, 11, 12, 13, 14, 15, 16, 17] rfl (by decide +kernel) (by decide +kernel)
set_option maxRecDepth 20000 in
theorem gX1_freeFrom_X1_freeOf : GoodIn wsX1_freeFrom (wsV RX1 39 RX1 yX1_freeOf wsX1_freeOf) := goodIn_app (goodIn_of _ (by decide +kernel)) ggX1_freeFrom_X1_freeOf
set_option maxRecDepth 20000 in
theorem ggX2_openUnitsFrom_X2_isFrom : GoodIn wsX2_openUnitsFrom wsX2_isFrom := goodIn_q _ [8] [9, 10, 11, 12, 13, 14, 15, 16, 17, 18, 19, 20, 21] rfl (by decide +kernel) (by decide +kernel)
set_option maxRecDepth 20000 in
theorem gX2_openUnitsFrom_X2_isFrom : GoodIn wsX2_openUnitsFrom (wsV RX2 46 RX2 yX2_isFrom wsX2_isFrom) := goodIn_app (goodIn_of _ (by decide +kernel)) ggX2_openUnitsFrom_X2_isFrom
set_option maxRecDepth 20000 in
theorem ggX2_useWithin_X2_isFrom : GoodIn wsX2_useWithin wsX2_isFrom := goodIn_q _ [9] [10, 11, 12, 13, 14, 15, 16, 17, 18, 19, 20, 21, 22] rfl (by decide +kernel) (by decide +kernel)
set_option maxRecDepth 20000 in
theorem gX2_useWithin_X2_isFrom : GoodIn wsX2_useWithin (wsV RX2 46 RX2 yX2_isFrom wsX2_isFrom) := goodIn_app (goodIn_of _ (by decide +kernel)) ggX2_useWithin_X2_isFrom
end
section
def sg_X0_has (P : sg_Pic) (x : Int32) : Int32 := (if x < 0 then 0 else (if (P 0 1) ≤ x then 0 else 1))

set_option maxHeartbeats 4000000 in
set_option maxRecDepth 100000 in
/-- X0_has -/
theorem c_X0_has (l : Launch) (D : va_G) (cI cZ cJ : ClassId) (lo sz : Nat) (a : Nat → Nat) (P : sg_Pic) (x : Int32) : Met l yX0_has wsX0_has ({ frames := 0, cells := 0, slots := 0, locals := 0 }) (Pre lo D cI cZ cJ [.ref (a 1), .int x] sz [(a 1, .inr (0, [.int (P 0 1), .ref (a 10), .ref (a 11), .ref (a 12), .ref (a 13)]))]) (vp_Si (fun r => r = sg_X0_has P x)) 0 0 (fun _ => False) := by
  refine Met.ofW (cc := cX0_has) (maxL := 2) (ret := (some .boolean)) (by decide) rfl ?_
  intro p e s m args below meth c s₁ B hml hv
  obtain ⟨rfl, hsz, hP, hD0, hC⟩ := hv
  have hx := B.exec
  have hb := B.bytes
  have hr := B.returns
  have hts := atoms_spec (ws := wsX0_has) B.pre
  have hown : s.vm.findClass RX0 = some m.cls := findClass_of_methodNamed B.named
  have hlocks := B.notSynchronized
  subst hsz
  have hK := hC.K
  have hD := hD0
  have hS : va_S (fun q => lo ≤ q) s.heap s.heap [] := va_S.rf
  have hAlo : ∀ q, (fun q => lo ≤ q) q → lo ≤ q := fun _ h => h
  have hL : ∀ q ∈ ([] : List Loc), (fun _ : Addr => False) q.base := fun q h => by cases h
  have hP : va_P D vwCl [(a 1, .inr (0, [.int (P 0 1), .ref (a 10), .ref (a 11), .ref (a 12), .ref (a 13)]))] s.heap := hP
  have hl := lv_entry ([.ref (a 1), .int x]) (n := 2) (Nat.le_of_ble_eq_true rfl)
  rw [lg_entry_eq]
  generalize (lg_sl ([.ref (a 1), .int x]) ++ List.replicate (2 - (lg_sl ([.ref (a 1), .int x])).length) Slot.unset).toArray = ls at hl ⊢
  have hl : lv_has ls 2 [(0, .ref (a 1)), (1, .int x)] := hl
  have in0 : ∀ w ∈ u_ws RX0 TX0 5, w ∈ wsX0_has := by decide +kernel
  refine lv_iload_n hx hb dX0_has_0 rfl (lv_at hl 1 rfl) ?_
  refine lv_if_lt (tgt := 16) hx hb dX0_has_1 (by decide) (fun c_1 => ?_) (fun c_1 => ?_)
  · refine lv_iconst (v := 0) hx hb dX0_has_16 (by decide) ?_
    exact W.zret (ty := .boolean) (v := 0) hx hb hr (by decide) (fun t ht hW => ⟨0, rfl, (show (0 : Int32) = sg_X0_has P x from by rw [sg_X0_has, if_pos c_1]), ht⟩) hL dX0_has_17
  · refine lv_iload_n hx hb dX0_has_4 rfl (lv_at hl 1 rfl) ?_
    refine lv_aload_n hx hb dX0_has_5 rfl (lv_at hl 0 rfl) ?_
    refine va_get (D := D) (ci := 0) (v := .int (P 0 1)) (C := RX0) (T := TX0) (N := 5) hx hb hts in0 hown hK hP 0 rfl rfl 0 (by decide) (hts (.fieldLink RX0 24 "Granary$Items" "count" "I") (by decide +kernel)) (fun _ h9 => h9) rfl dX0_has_6 ?_
    refine lv_icmp_ge (tgt := 16) hx hb dX0_has_9 (by decide) (fun c_2 => ?_) (fun c_2 => ?_)
    · refine lv_iconst (v := 0) hx hb dX0_has_16 (by decide) ?_
      exact W.zret (ty := .boolean) (v := 0) hx hb hr (by decide) (fun t ht hW => ⟨0, rfl, (show (0 : Int32) = sg_X0_has P x from by rw [sg_X0_has, if_neg c_1, if_pos c_2]), ht⟩) hL dX0_has_17
    · refine lv_iconst (v := 1) hx hb dX0_has_12 (by decide) ?_
      refine lv_goto (tgt := 17) hx hb dX0_has_13 (by decide) ?_
      exact W.zret (ty := .boolean) (v := 1) hx hb hr (by decide) (fun t ht hW => ⟨1, rfl, (show (1 : Int32) = sg_X0_has P x from by rw [sg_X0_has, if_neg c_1, if_neg c_2]), ht⟩) hL dX0_has_17

def sg_X5_has (P : sg_Pic) (x : Int32) : Int32 := (if x < 0 then 0 else (if (P 0 2) ≤ x then 0 else 1))

set_option maxHeartbeats 4000000 in
set_option maxRecDepth 100000 in
/-- X5_has -/
theorem c_X5_has (l : Launch) (D : va_G) (cI cZ cJ : ClassId) (lo sz : Nat) (a : Nat → Nat) (P : sg_Pic) (x : Int32) : Met l yX5_has wsX5_has ({ frames := 0, cells := 0, slots := 0, locals := 0 }) (Pre lo D cI cZ cJ [.ref (a 2), .int x] sz [(a 2, .inr (5, [.int (P 0 2), .ref (a 20), .ref (a 21)]))]) (vp_Si (fun r => r = sg_X5_has P x)) 0 0 (fun _ => False) := by
  refine Met.ofW (cc := cX5_has) (maxL := 2) (ret := (some .boolean)) (by decide) rfl ?_
  intro p e s m args below meth c s₁ B hml hv
  obtain ⟨rfl, hsz, hP, hD0, hC⟩ := hv
  have hx := B.exec
  have hb := B.bytes
  have hr := B.returns
  have hts := atoms_spec (ws := wsX5_has) B.pre
  have hown : s.vm.findClass RX5 = some m.cls := findClass_of_methodNamed B.named
  have hlocks := B.notSynchronized
  subst hsz
  have hK := hC.K
  have hD := hD0
  have hS : va_S (fun q => lo ≤ q) s.heap s.heap [] := va_S.rf
  have hAlo : ∀ q, (fun q => lo ≤ q) q → lo ≤ q := fun _ h => h
  have hL : ∀ q ∈ ([] : List Loc), (fun _ : Addr => False) q.base := fun q h => by cases h
  have hP : va_P D vwCl [(a 2, .inr (5, [.int (P 0 2), .ref (a 20), .ref (a 21)]))] s.heap := hP
  have hl := lv_entry ([.ref (a 2), .int x]) (n := 2) (Nat.le_of_ble_eq_true rfl)
  rw [lg_entry_eq]
  generalize (lg_sl ([.ref (a 2), .int x]) ++ List.replicate (2 - (lg_sl ([.ref (a 2), .int x])).length) Slot.unset).toArray = ls at hl ⊢
  have hl : lv_has ls 2 [(0, .ref (a 2)), (1, .int x)] := hl
  have in5 : ∀ w ∈ u_ws RX5 TX5 3, w ∈ wsX5_has := by decide +kernel
  refine lv_iload_n hx hb dX5_has_0 rfl (lv_at hl 1 rfl) ?_
  refine lv_if_lt (tgt := 16) hx hb dX5_has_1 (by decide) (fun c_1 => ?_) (fun c_1 => ?_)
  · refine lv_iconst (v := 0) hx hb dX5_has_16 (by decide) ?_
    exact W.zret (ty := .boolean) (v := 0) hx hb hr (by decide) (fun t ht hW => ⟨0, rfl, (show (0 : Int32) = sg_X5_has P x from by rw [sg_X5_has, if_pos c_1]), ht⟩) hL dX5_has_17
  · refine lv_iload_n hx hb dX5_has_4 rfl (lv_at hl 1 rfl) ?_
    refine lv_aload_n hx hb dX5_has_5 rfl (lv_at hl 0 rfl) ?_
    refine va_get (D := D) (ci := 5) (v := .int (P 0 2)) (C := RX5) (T := TX5) (N := 3) hx hb hts in5 hown hK hP 0 rfl rfl 0 (by decide) (hts (.fieldLink RX5 18 "Granary$Sites" "count" "I") (by decide +kernel)) (fun _ h9 => h9) rfl dX5_has_6 ?_
    refine lv_icmp_ge (tgt := 16) hx hb dX5_has_9 (by decide) (fun c_2 => ?_) (fun c_2 => ?_)
    · refine lv_iconst (v := 0) hx hb dX5_has_16 (by decide) ?_
      exact W.zret (ty := .boolean) (v := 0) hx hb hr (by decide) (fun t ht hW => ⟨0, rfl, (show (0 : Int32) = sg_X5_has P x from by rw [sg_X5_has, if_neg c_1, if_pos c_2]), ht⟩) hL dX5_has_17
    · refine lv_iconst (v := 1) hx hb dX5_has_12 (by decide) ?_
      refine lv_goto (tgt := 17) hx hb dX5_has_13 (by decide) ?_
      exact W.zret (ty := .boolean) (v := 1) hx hb hr (by decide) (fun t ht hW => ⟨1, rfl, (show (1 : Int32) = sg_X5_has P x from by rw [sg_X5_has, if_neg c_1, if_neg c_2]), ht⟩) hL dX5_has_17

def sg_X1_has (P : sg_Pic) (x : Int32) : Int32 := (if x < 0 then 0 else (if (P 0 3) ≤ x then 0 else 1))

set_option maxHeartbeats 4000000 in
set_option maxRecDepth 100000 in
/-- X1_has -/
theorem c_X1_has (l : Launch) (D : va_G) (cI cZ cJ : ClassId) (lo sz : Nat) (a : Nat → Nat) (P : sg_Pic) (x : Int32) : Met l yX1_has wsX1_has ({ frames := 0, cells := 0, slots := 0, locals := 0 }) (Pre lo D cI cZ cJ [.ref (a 4), .int x] sz [(a 4, .inr (1, [.int (P 0 3), .ref (a 40), .ref (a 41), .ref (a 42), .ref (a 43), .ref (a 44)]))]) (vp_Si (fun r => r = sg_X1_has P x)) 0 0 (fun _ => False) := by
  refine Met.ofW (cc := cX1_has) (maxL := 2) (ret := (some .boolean)) (by decide) rfl ?_
  intro p e s m args below meth c s₁ B hml hv
  obtain ⟨rfl, hsz, hP, hD0, hC⟩ := hv
  have hx := B.exec
  have hb := B.bytes
  have hr := B.returns
  have hts := atoms_spec (ws := wsX1_has) B.pre
  have hown : s.vm.findClass RX1 = some m.cls := findClass_of_methodNamed B.named
  have hlocks := B.notSynchronized
  subst hsz
  have hK := hC.K
  have hD := hD0
  have hS : va_S (fun q => lo ≤ q) s.heap s.heap [] := va_S.rf
  have hAlo : ∀ q, (fun q => lo ≤ q) q → lo ≤ q := fun _ h => h
  have hL : ∀ q ∈ ([] : List Loc), (fun _ : Addr => False) q.base := fun q h => by cases h
  have hP : va_P D vwCl [(a 4, .inr (1, [.int (P 0 3), .ref (a 40), .ref (a 41), .ref (a 42), .ref (a 43), .ref (a 44)]))] s.heap := hP
  have hl := lv_entry ([.ref (a 4), .int x]) (n := 2) (Nat.le_of_ble_eq_true rfl)
  rw [lg_entry_eq]
  generalize (lg_sl ([.ref (a 4), .int x]) ++ List.replicate (2 - (lg_sl ([.ref (a 4), .int x])).length) Slot.unset).toArray = ls at hl ⊢
  have hl : lv_has ls 2 [(0, .ref (a 4)), (1, .int x)] := hl
  have in1 : ∀ w ∈ u_ws RX1 TX1 6, w ∈ wsX1_has := by decide +kernel
  refine lv_iload_n hx hb dX1_has_0 rfl (lv_at hl 1 rfl) ?_
  refine lv_if_lt (tgt := 16) hx hb dX1_has_1 (by decide) (fun c_1 => ?_) (fun c_1 => ?_)
  · refine lv_iconst (v := 0) hx hb dX1_has_16 (by decide) ?_
    exact W.zret (ty := .boolean) (v := 0) hx hb hr (by decide) (fun t ht hW => ⟨0, rfl, (show (0 : Int32) = sg_X1_has P x from by rw [sg_X1_has, if_pos c_1]), ht⟩) hL dX1_has_17
  · refine lv_iload_n hx hb dX1_has_4 rfl (lv_at hl 1 rfl) ?_
    refine lv_aload_n hx hb dX1_has_5 rfl (lv_at hl 0 rfl) ?_
    refine va_get (D := D) (ci := 1) (v := .int (P 0 3)) (C := RX1) (T := TX1) (N := 6) hx hb hts in1 hown hK hP 0 rfl rfl 0 (by decide) (hts (.fieldLink RX1 27 "Granary$Lots" "count" "I") (by decide +kernel)) (fun _ h9 => h9) rfl dX1_has_6 ?_
    refine lv_icmp_ge (tgt := 16) hx hb dX1_has_9 (by decide) (fun c_2 => ?_) (fun c_2 => ?_)
    · refine lv_iconst (v := 0) hx hb dX1_has_16 (by decide) ?_
      exact W.zret (ty := .boolean) (v := 0) hx hb hr (by decide) (fun t ht hW => ⟨0, rfl, (show (0 : Int32) = sg_X1_has P x from by rw [sg_X1_has, if_neg c_1, if_pos c_2]), ht⟩) hL dX1_has_17
    · refine lv_iconst (v := 1) hx hb dX1_has_12 (by decide) ?_
      refine lv_goto (tgt := 17) hx hb dX1_has_13 (by decide) ?_
      exact W.zret (ty := .boolean) (v := 1) hx hb hr (by decide) (fun t ht hW => ⟨1, rfl, (show (1 : Int32) = sg_X1_has P x from by rw [sg_X1_has, if_neg c_1, if_neg c_2]), ht⟩) hL dX1_has_17

def sg_X2_has (P : sg_Pic) (x : Int32) : Int32 := (if x < 0 then 0 else (if (P 0 4) ≤ x then 0 else 1))

set_option maxHeartbeats 4000000 in
set_option maxRecDepth 100000 in
/-- X2_has -/
theorem c_X2_has (l : Launch) (D : va_G) (cI cZ cJ : ClassId) (lo sz : Nat) (a : Nat → Nat) (P : sg_Pic) (x : Int32) : Met l yX2_has wsX2_has ({ frames := 0, cells := 0, slots := 0, locals := 0 }) (Pre lo D cI cZ cJ [.ref (a 5), .int x] sz [(a 5, .inr (2, [.int (P 0 4), .ref (a 50), .ref (a 51), .ref (a 52), .ref (a 53), .ref (a 54), .ref (a 55), .ref (a 56), .ref (a 57), .ref (a 58), .ref (a 59)]))]) (vp_Si (fun r => r = sg_X2_has P x)) 0 0 (fun _ => False) := by
  refine Met.ofW (cc := cX2_has) (maxL := 2) (ret := (some .boolean)) (by decide) rfl ?_
  intro p e s m args below meth c s₁ B hml hv
  obtain ⟨rfl, hsz, hP, hD0, hC⟩ := hv
  have hx := B.exec
  have hb := B.bytes
  have hr := B.returns
  have hts := atoms_spec (ws := wsX2_has) B.pre
  have hown : s.vm.findClass RX2 = some m.cls := findClass_of_methodNamed B.named
  have hlocks := B.notSynchronized
  subst hsz
  have hK := hC.K
  have hD := hD0
  have hS : va_S (fun q => lo ≤ q) s.heap s.heap [] := va_S.rf
  have hAlo : ∀ q, (fun q => lo ≤ q) q → lo ≤ q := fun _ h => h
  have hL : ∀ q ∈ ([] : List Loc), (fun _ : Addr => False) q.base := fun q h => by cases h
  have hP : va_P D vwCl [(a 5, .inr (2, [.int (P 0 4), .ref (a 50), .ref (a 51), .ref (a 52), .ref (a 53), .ref (a 54), .ref (a 55), .ref (a 56), .ref (a 57), .ref (a 58), .ref (a 59)]))] s.heap := hP
  have hl := lv_entry ([.ref (a 5), .int x]) (n := 2) (Nat.le_of_ble_eq_true rfl)
  rw [lg_entry_eq]
  generalize (lg_sl ([.ref (a 5), .int x]) ++ List.replicate (2 - (lg_sl ([.ref (a 5), .int x])).length) Slot.unset).toArray = ls at hl ⊢
  have hl : lv_has ls 2 [(0, .ref (a 5)), (1, .int x)] := hl
  have in2 : ∀ w ∈ u_ws RX2 TX2 11, w ∈ wsX2_has := by decide +kernel
  refine lv_iload_n hx hb dX2_has_0 rfl (lv_at hl 1 rfl) ?_
  refine lv_if_lt (tgt := 16) hx hb dX2_has_1 (by decide) (fun c_1 => ?_) (fun c_1 => ?_)
  · refine lv_iconst (v := 0) hx hb dX2_has_16 (by decide) ?_
    exact W.zret (ty := .boolean) (v := 0) hx hb hr (by decide) (fun t ht hW => ⟨0, rfl, (show (0 : Int32) = sg_X2_has P x from by rw [sg_X2_has, if_pos c_1]), ht⟩) hL dX2_has_17
  · refine lv_iload_n hx hb dX2_has_4 rfl (lv_at hl 1 rfl) ?_
    refine lv_aload_n hx hb dX2_has_5 rfl (lv_at hl 0 rfl) ?_
    refine va_get (D := D) (ci := 2) (v := .int (P 0 4)) (C := RX2) (T := TX2) (N := 11) hx hb hts in2 hown hK hP 0 rfl rfl 0 (by decide) (hts (.fieldLink RX2 42 "Granary$Orders" "count" "I") (by decide +kernel)) (fun _ h9 => h9) rfl dX2_has_6 ?_
    refine lv_icmp_ge (tgt := 16) hx hb dX2_has_9 (by decide) (fun c_2 => ?_) (fun c_2 => ?_)
    · refine lv_iconst (v := 0) hx hb dX2_has_16 (by decide) ?_
      exact W.zret (ty := .boolean) (v := 0) hx hb hr (by decide) (fun t ht hW => ⟨0, rfl, (show (0 : Int32) = sg_X2_has P x from by rw [sg_X2_has, if_neg c_1, if_pos c_2]), ht⟩) hL dX2_has_17
    · refine lv_iconst (v := 1) hx hb dX2_has_12 (by decide) ?_
      refine lv_goto (tgt := 17) hx hb dX2_has_13 (by decide) ?_
      exact W.zret (ty := .boolean) (v := 1) hx hb hr (by decide) (fun t ht hW => ⟨1, rfl, (show (1 : Int32) = sg_X2_has P x from by rw [sg_X2_has, if_neg c_1, if_neg c_2]), ht⟩) hL dX2_has_17

def sg_full (P : sg_Pic) : Int32 := (if (P 0 5) < 90 then 0 else 1)

set_option maxHeartbeats 4000000 in
set_option maxRecDepth 100000 in
/-- X7_full -/
theorem c_full (l : Launch) (D : va_G) (cI cZ cJ : ClassId) (lo sz : Nat) (a : Nat → Nat) (P : sg_Pic) : Met l yX7_full wsX7_full ({ frames := 0, cells := 0, slots := 0, locals := 0 }) (Pre lo D cI cZ cJ [.ref (a 6)] sz [(a 6, .inr (7, [.int (P 0 5), .ref (a 60), .ref (a 61), .ref (a 62), .ref (a 63), .ref (a 64), .ref (a 65)]))]) (vp_Si (fun r => r = sg_full P)) 0 0 (fun _ => False) := by
  refine Met.ofW (cc := cX7_full) (maxL := 1) (ret := (some .boolean)) (by decide) rfl ?_
  intro p e s m args below meth c s₁ B hml hv
  obtain ⟨rfl, hsz, hP, hD0, hC⟩ := hv
  have hx := B.exec
  have hb := B.bytes
  have hr := B.returns
  have hts := atoms_spec (ws := wsX7_full) B.pre
  have hown : s.vm.findClass RX7 = some m.cls := findClass_of_methodNamed B.named
  have hlocks := B.notSynchronized
  subst hsz
  have hK := hC.K
  have hD := hD0
  have hS : va_S (fun q => lo ≤ q) s.heap s.heap [] := va_S.rf
  have hAlo : ∀ q, (fun q => lo ≤ q) q → lo ≤ q := fun _ h => h
  have hL : ∀ q ∈ ([] : List Loc), (fun _ : Addr => False) q.base := fun q h => by cases h
  have hP : va_P D vwCl [(a 6, .inr (7, [.int (P 0 5), .ref (a 60), .ref (a 61), .ref (a 62), .ref (a 63), .ref (a 64), .ref (a 65)]))] s.heap := hP
  have hl := lv_entry ([.ref (a 6)]) (n := 1) (Nat.le_of_ble_eq_true rfl)
  rw [lg_entry_eq]
  generalize (lg_sl ([.ref (a 6)]) ++ List.replicate (1 - (lg_sl ([.ref (a 6)])).length) Slot.unset).toArray = ls at hl ⊢
  have hl : lv_has ls 1 [(0, .ref (a 6))] := hl
  have in7 : ∀ w ∈ u_ws RX7 TX7 7, w ∈ wsX7_full := by decide +kernel
  refine lv_aload_n hx hb dX7_full_0 rfl (lv_at hl 0 rfl) ?_
  refine va_get (D := D) (ci := 7) (v := .int (P 0 5)) (C := RX7) (T := TX7) (N := 7) hx hb hts in7 hown hK hP 0 rfl rfl 0 (by decide) (hts (.fieldLink RX7 30 "Granary$Transports" "count" "I") (by decide +kernel)) (fun _ h9 => h9) rfl dX7_full_1 ?_
  refine lv_bipush (v := 90) hx hb dX7_full_4 (by decide) ?_
  refine lv_icmp_lt (tgt := 13) hx hb dX7_full_6 (by decide) (fun c_1 => ?_) (fun c_1 => ?_)
  · refine lv_iconst (v := 0) hx hb dX7_full_13 (by decide) ?_
    exact W.zret (ty := .boolean) (v := 0) hx hb hr (by decide) (fun t ht hW => ⟨0, rfl, (show (0 : Int32) = sg_full P from by rw [sg_full, if_pos c_1]), ht⟩) hL dX7_full_14
  · refine lv_iconst (v := 1) hx hb dX7_full_9 (by decide) ?_
    refine lv_goto (tgt := 14) hx hb dX7_full_10 (by decide) ?_
    exact W.zret (ty := .boolean) (v := 1) hx hb hr (by decide) (fun t ht hW => ⟨1, rfl, (show (1 : Int32) = sg_full P from by rw [sg_full, if_neg c_1]), ht⟩) hL dX7_full_14

def sg_heldOf (P : sg_Pic) (xo : Nat) (xl : Nat) : Int32 := (P 59 ((xo * 200) + xl))

set_option maxHeartbeats 4000000 in
set_option maxRecDepth 100000 in
/-- X2_heldOf -/
theorem c_heldOf (l : Launch) (D : va_G) (cI cZ cJ : ClassId) (lo sz : Nat) (a : Nat → Nat) (P : sg_Pic) (xo : Nat) (xl : Nat) (ho : xo < 60) (hl0 : xl < 200) : Met l yX2_heldOf wsX2_heldOf ({ frames := 0, cells := 0, slots := 0, locals := 0 }) (Pre lo D cI cZ cJ [.ref (a 5), .int (nI xo), .int (nI xl)] sz [(a 5, .inr (2, [.int (P 0 4), .ref (a 50), .ref (a 51), .ref (a 52), .ref (a 53), .ref (a 54), .ref (a 55), .ref (a 56), .ref (a 57), .ref (a 58), .ref (a 59)])), (a 59, .inl (cI, 12000, .inl (P 59)))]) (vp_Si (fun r => r = sg_heldOf P xo xl)) 0 0 (fun _ => False) := by
  refine Met.ofW (cc := cX2_heldOf) (maxL := 3) (ret := (some .int)) (by decide) rfl ?_
  intro p e s m args below meth c s₁ B hml hv
  obtain ⟨rfl, hsz, hP, hD0, hC⟩ := hv
  have hx := B.exec
  have hb := B.bytes
  have hr := B.returns
  have hts := atoms_spec (ws := wsX2_heldOf) B.pre
  have hown : s.vm.findClass RX2 = some m.cls := findClass_of_methodNamed B.named
  have hlocks := B.notSynchronized
  subst hsz
  have hK := hC.K
  have hD := hD0
  have hS : va_S (fun q => lo ≤ q) s.heap s.heap [] := va_S.rf
  have hAlo : ∀ q, (fun q => lo ≤ q) q → lo ≤ q := fun _ h => h
  have hL : ∀ q ∈ ([] : List Loc), (fun _ : Addr => False) q.base := fun q h => by cases h
  have hP : va_P D vwCl [(a 5, .inr (2, [.int (P 0 4), .ref (a 50), .ref (a 51), .ref (a 52), .ref (a 53), .ref (a 54), .ref (a 55), .ref (a 56), .ref (a 57), .ref (a 58), .ref (a 59)])), (a 59, .inl (cI, 12000, .inl (P 59)))] s.heap := hP
  have hl := lv_entry ([.ref (a 5), .int (nI xo), .int (nI xl)]) (n := 3) (Nat.le_of_ble_eq_true rfl)
  rw [lg_entry_eq]
  generalize (lg_sl ([.ref (a 5), .int (nI xo), .int (nI xl)]) ++ List.replicate (3 - (lg_sl ([.ref (a 5), .int (nI xo), .int (nI xl)])).length) Slot.unset).toArray = ls at hl ⊢
  have hl : lv_has ls 3 [(0, .ref (a 5)), (1, .int (nI xo)), (2, .int (nI xl))] := hl
  have in2 : ∀ w ∈ u_ws RX2 TX2 11, w ∈ wsX2_heldOf := by decide +kernel
  refine lv_aload_n hx hb dX2_heldOf_0 rfl (lv_at hl 0 rfl) ?_
  refine va_get (D := D) (ci := 2) (v := .ref (a 59)) (C := RX2) (T := TX2) (N := 11) hx hb hts in2 hown hK hP 0 rfl rfl 10 (by decide) (hts (.fieldLink RX2 39 "Granary$Orders" "held" "[I") (by decide +kernel)) (fun _ h9 => h9) rfl dX2_heldOf_1 ?_
  refine lv_iload_n hx hb dX2_heldOf_4 rfl (lv_at hl 1 rfl) ?_
  refine lv_sipush (v := 200) hx hb dX2_heldOf_5 (by decide) ?_
  refine lv_imul hx hb dX2_heldOf_8 ?_
  refine lv_toi (y := nI (xo * 200)) (sg_mulN xo 200) ?_
  refine lv_iload_n hx hb dX2_heldOf_9 rfl (lv_at hl 2 rfl) ?_
  refine lv_iadd hx hb dX2_heldOf_10 ?_
  refine lv_toi (y := nI ((xo * 200) + xl)) (nI_add (xo * 200) xl) ?_
  refine sg_iald hx hb hK hP 1 0 rfl rfl (j := (xo * 200) + xl) rfl (by omega) (Nat.le_of_ble_eq_true rfl) dX2_heldOf_11 ?_
  refine lv_toi (y := P 59 ((xo * 200) + xl)) rfl ?_
  exact W.iret (v := (P 59 ((xo * 200) + xl))) hx hb hr (fun t ht hW => ⟨(P 59 ((xo * 200) + xl)), rfl, rfl, ht⟩) hL dX2_heldOf_12

def sg_missing (P : sg_Pic) (xo : Nat) : Int32 := ((P 52 xo) - (P 53 xo))

set_option maxHeartbeats 4000000 in
set_option maxRecDepth 100000 in
/-- X2_missing -/
theorem c_missing (l : Launch) (D : va_G) (cI cZ cJ : ClassId) (lo sz : Nat) (a : Nat → Nat) (P : sg_Pic) (xo : Nat) (ho : xo < 60) : Met l yX2_missing wsX2_missing ({ frames := 0, cells := 0, slots := 0, locals := 0 }) (Pre lo D cI cZ cJ [.ref (a 5), .int (nI xo)] sz [(a 5, .inr (2, [.int (P 0 4), .ref (a 50), .ref (a 51), .ref (a 52), .ref (a 53), .ref (a 54), .ref (a 55), .ref (a 56), .ref (a 57), .ref (a 58), .ref (a 59)])), (a 52, .inl (cI, 60, .inl (P 52))), (a 53, .inl (cI, 60, .inl (P 53)))]) (vp_Si (fun r => r = sg_missing P xo)) 0 0 (fun _ => False) := by
  refine Met.ofW (cc := cX2_missing) (maxL := 2) (ret := (some .int)) (by decide) rfl ?_
  intro p e s m args below meth c s₁ B hml hv
  obtain ⟨rfl, hsz, hP, hD0, hC⟩ := hv
  have hx := B.exec
  have hb := B.bytes
  have hr := B.returns
  have hts := atoms_spec (ws := wsX2_missing) B.pre
  have hown : s.vm.findClass RX2 = some m.cls := findClass_of_methodNamed B.named
  have hlocks := B.notSynchronized
  subst hsz
  have hK := hC.K
  have hD := hD0
  have hS : va_S (fun q => lo ≤ q) s.heap s.heap [] := va_S.rf
  have hAlo : ∀ q, (fun q => lo ≤ q) q → lo ≤ q := fun _ h => h
  have hL : ∀ q ∈ ([] : List Loc), (fun _ : Addr => False) q.base := fun q h => by cases h
  have hP : va_P D vwCl [(a 5, .inr (2, [.int (P 0 4), .ref (a 50), .ref (a 51), .ref (a 52), .ref (a 53), .ref (a 54), .ref (a 55), .ref (a 56), .ref (a 57), .ref (a 58), .ref (a 59)])), (a 52, .inl (cI, 60, .inl (P 52))), (a 53, .inl (cI, 60, .inl (P 53)))] s.heap := hP
  have hl := lv_entry ([.ref (a 5), .int (nI xo)]) (n := 2) (Nat.le_of_ble_eq_true rfl)
  rw [lg_entry_eq]
  generalize (lg_sl ([.ref (a 5), .int (nI xo)]) ++ List.replicate (2 - (lg_sl ([.ref (a 5), .int (nI xo)])).length) Slot.unset).toArray = ls at hl ⊢
  have hl : lv_has ls 2 [(0, .ref (a 5)), (1, .int (nI xo))] := hl
  have in2 : ∀ w ∈ u_ws RX2 TX2 11, w ∈ wsX2_missing := by decide +kernel
  refine lv_aload_n hx hb dX2_missing_0 rfl (lv_at hl 0 rfl) ?_
  refine va_get (D := D) (ci := 2) (v := .ref (a 52)) (C := RX2) (T := TX2) (N := 11) hx hb hts in2 hown hK hP 0 rfl rfl 3 (by decide) (hts (.fieldLink RX2 18 "Granary$Orders" "units" "[I") (by decide +kernel)) (fun _ h9 => h9) rfl dX2_missing_1 ?_
  refine lv_iload_n hx hb dX2_missing_4 rfl (lv_at hl 1 rfl) ?_
  refine sg_iald hx hb hK hP 1 0 rfl rfl (j := xo) rfl (by omega) (Nat.le_of_ble_eq_true rfl) dX2_missing_5 ?_
  refine lv_toi (y := P 52 xo) rfl ?_
  refine lv_aload_n hx hb dX2_missing_6 rfl (lv_at hl 0 rfl) ?_
  refine va_get (D := D) (ci := 2) (v := .ref (a 53)) (C := RX2) (T := TX2) (N := 11) hx hb hts in2 hown hK hP 0 rfl rfl 4 (by decide) (hts (.fieldLink RX2 21 "Granary$Orders" "reserved" "[I") (by decide +kernel)) (fun _ h9 => h9) rfl dX2_missing_7 ?_
  refine lv_iload_n hx hb dX2_missing_10 rfl (lv_at hl 1 rfl) ?_
  refine sg_iald hx hb hK hP 2 0 rfl rfl (j := xo) rfl (by omega) (Nat.le_of_ble_eq_true rfl) dX2_missing_11 ?_
  refine lv_toi (y := P 53 xo) rfl ?_
  refine lv_isub hx hb dX2_missing_12 ?_
  exact W.iret (v := ((P 52 xo) - (P 53 xo))) hx hb hr (fun t ht hW => ⟨((P 52 xo) - (P 53 xo)), rfl, rfl, ht⟩) hL dX2_missing_13

def sg_isFrom (P : sg_Pic) (xo : Nat) (x : Int32) (y : Int32) : Int32 := (if (P 50 xo) = x then (if (P 51 xo) = y then 1 else 0) else 0)

set_option maxHeartbeats 4000000 in
set_option maxRecDepth 100000 in
/-- X2_isFrom -/
theorem c_isFrom (l : Launch) (D : va_G) (cI cZ cJ : ClassId) (lo sz : Nat) (a : Nat → Nat) (P : sg_Pic) (xo : Nat) (x : Int32) (y : Int32) (ho : xo < 60) : Met l yX2_isFrom wsX2_isFrom ({ frames := 0, cells := 0, slots := 0, locals := 0 }) (Pre lo D cI cZ cJ [.ref (a 5), .int (nI xo), .int x, .int y] sz [(a 5, .inr (2, [.int (P 0 4), .ref (a 50), .ref (a 51), .ref (a 52), .ref (a 53), .ref (a 54), .ref (a 55), .ref (a 56), .ref (a 57), .ref (a 58), .ref (a 59)])), (a 50, .inl (cI, 60, .inl (P 50))), (a 51, .inl (cI, 60, .inl (P 51)))]) (vp_Si (fun r => r = sg_isFrom P xo x y)) 0 0 (fun _ => False) := by
  refine Met.ofW (cc := cX2_isFrom) (maxL := 4) (ret := (some .boolean)) (by decide) rfl ?_
  intro p e s m args below meth c s₁ B hml hv
  obtain ⟨rfl, hsz, hP, hD0, hC⟩ := hv
  have hx := B.exec
  have hb := B.bytes
  have hr := B.returns
  have hts := atoms_spec (ws := wsX2_isFrom) B.pre
  have hown : s.vm.findClass RX2 = some m.cls := findClass_of_methodNamed B.named
  have hlocks := B.notSynchronized
  subst hsz
  have hK := hC.K
  have hD := hD0
  have hS : va_S (fun q => lo ≤ q) s.heap s.heap [] := va_S.rf
  have hAlo : ∀ q, (fun q => lo ≤ q) q → lo ≤ q := fun _ h => h
  have hL : ∀ q ∈ ([] : List Loc), (fun _ : Addr => False) q.base := fun q h => by cases h
  have hP : va_P D vwCl [(a 5, .inr (2, [.int (P 0 4), .ref (a 50), .ref (a 51), .ref (a 52), .ref (a 53), .ref (a 54), .ref (a 55), .ref (a 56), .ref (a 57), .ref (a 58), .ref (a 59)])), (a 50, .inl (cI, 60, .inl (P 50))), (a 51, .inl (cI, 60, .inl (P 51)))] s.heap := hP
  have hl := lv_entry ([.ref (a 5), .int (nI xo), .int x, .int y]) (n := 4) (Nat.le_of_ble_eq_true rfl)
  rw [lg_entry_eq]
  generalize (lg_sl ([.ref (a 5), .int (nI xo), .int x, .int y]) ++ List.replicate (4 - (lg_sl ([.ref (a 5), .int (nI xo), .int x, .int y])).length) Slot.unset).toArray = ls at hl ⊢
  have hl : lv_has ls 4 [(0, .ref (a 5)), (1, .int (nI xo)), (2, .int x), (3, .int y)] := hl
  have in2 : ∀ w ∈ u_ws RX2 TX2 11, w ∈ wsX2_isFrom := by decide +kernel
  refine lv_aload_n hx hb dX2_isFrom_0 rfl (lv_at hl 0 rfl) ?_
  refine va_get (D := D) (ci := 2) (v := .ref (a 50)) (C := RX2) (T := TX2) (N := 11) hx hb hts in2 hown hK hP 0 rfl rfl 1 (by decide) (hts (.fieldLink RX2 9 "Granary$Orders" "item" "[I") (by decide +kernel)) (fun _ h9 => h9) rfl dX2_isFrom_1 ?_
  refine lv_iload_n hx hb dX2_isFrom_4 rfl (lv_at hl 1 rfl) ?_
  refine sg_iald hx hb hK hP 1 0 rfl rfl (j := xo) rfl (by omega) (Nat.le_of_ble_eq_true rfl) dX2_isFrom_5 ?_
  refine lv_toi (y := P 50 xo) rfl ?_
  refine lv_iload_n hx hb dX2_isFrom_6 rfl (lv_at hl 2 rfl) ?_
  refine lv_icmp_ne (tgt := 24) hx hb dX2_isFrom_7 (by decide) (fun c_1 => ?_) (fun c_1 => ?_)
  · refine lv_iconst (v := 0) hx hb dX2_isFrom_24 (by decide) ?_
    exact W.zret (ty := .boolean) (v := 0) hx hb hr (by decide) (fun t ht hW => ⟨0, rfl, (show (0 : Int32) = sg_isFrom P xo x y from by rw [sg_isFrom, if_neg c_1]), ht⟩) hL dX2_isFrom_25
  · refine lv_aload_n hx hb dX2_isFrom_10 rfl (lv_at hl 0 rfl) ?_
    refine va_get (D := D) (ci := 2) (v := .ref (a 51)) (C := RX2) (T := TX2) (N := 11) hx hb hts in2 hown hK hP 0 rfl rfl 2 (by decide) (hts (.fieldLink RX2 15 "Granary$Orders" "site" "[I") (by decide +kernel)) (fun _ h9 => h9) rfl dX2_isFrom_11 ?_
    refine lv_iload_n hx hb dX2_isFrom_14 rfl (lv_at hl 1 rfl) ?_
    refine sg_iald hx hb hK hP 2 0 rfl rfl (j := xo) rfl (by omega) (Nat.le_of_ble_eq_true rfl) dX2_isFrom_15 ?_
    refine lv_toi (y := P 51 xo) rfl ?_
    refine lv_iload_n hx hb dX2_isFrom_16 rfl (lv_at hl 3 rfl) ?_
    refine lv_icmp_ne (tgt := 24) hx hb dX2_isFrom_17 (by decide) (fun c_2 => ?_) (fun c_2 => ?_)
    · refine lv_iconst (v := 0) hx hb dX2_isFrom_24 (by decide) ?_
      exact W.zret (ty := .boolean) (v := 0) hx hb hr (by decide) (fun t ht hW => ⟨0, rfl, (show (0 : Int32) = sg_isFrom P xo x y from by rw [sg_isFrom, if_pos c_1, if_neg c_2]), ht⟩) hL dX2_isFrom_25
    · refine lv_iconst (v := 1) hx hb dX2_isFrom_20 (by decide) ?_
      refine lv_goto (tgt := 25) hx hb dX2_isFrom_21 (by decide) ?_
      exact W.zret (ty := .boolean) (v := 1) hx hb hr (by decide) (fun t ht hW => ⟨1, rfl, (show (1 : Int32) = sg_isFrom P xo x y from by rw [sg_isFrom, if_pos c_1, if_pos c_2]), ht⟩) hL dX2_isFrom_25

def sg_comesAhead (P : sg_Pic) (xo : Nat) (xl : Nat) : Int32 := (if (P 55 xo) = (P 55 xl) then (if (P 54 xo) = (P 54 xl) then (if (nI xl) ≤ (nI xo) then 0 else 1) else (if (P 54 xl) ≤ (P 54 xo) then 0 else 1)) else (if (P 55 xl) ≤ (P 55 xo) then 0 else 1))

set_option maxHeartbeats 4000000 in
set_option maxRecDepth 100000 in
/-- X2_comesAhead -/
theorem c_comesAhead (l : Launch) (D : va_G) (cI cZ cJ : ClassId) (lo sz : Nat) (a : Nat → Nat) (P : sg_Pic) (xo : Nat) (xl : Nat) (ho : xo < 60) (ho2 : xl < 60) : Met l yX2_comesAhead wsX2_comesAhead ({ frames := 0, cells := 0, slots := 0, locals := 0 }) (Pre lo D cI cZ cJ [.ref (a 5), .int (nI xo), .int (nI xl)] sz [(a 5, .inr (2, [.int (P 0 4), .ref (a 50), .ref (a 51), .ref (a 52), .ref (a 53), .ref (a 54), .ref (a 55), .ref (a 56), .ref (a 57), .ref (a 58), .ref (a 59)])), (a 54, .inl (cI, 60, .inl (P 54))), (a 55, .inl (cI, 60, .inl (P 55)))]) (vp_Si (fun r => r = sg_comesAhead P xo xl)) 0 0 (fun _ => False) := by
  refine Met.ofW (cc := cX2_comesAhead) (maxL := 3) (ret := (some .boolean)) (by decide) rfl ?_
  intro p e s m args below meth c s₁ B hml hv
  obtain ⟨rfl, hsz, hP, hD0, hC⟩ := hv
  have hx := B.exec
  have hb := B.bytes
  have hr := B.returns
  have hts := atoms_spec (ws := wsX2_comesAhead) B.pre
  have hown : s.vm.findClass RX2 = some m.cls := findClass_of_methodNamed B.named
  have hlocks := B.notSynchronized
  subst hsz
  have hK := hC.K
  have hD := hD0
  have hS : va_S (fun q => lo ≤ q) s.heap s.heap [] := va_S.rf
  have hAlo : ∀ q, (fun q => lo ≤ q) q → lo ≤ q := fun _ h => h
  have hL : ∀ q ∈ ([] : List Loc), (fun _ : Addr => False) q.base := fun q h => by cases h
  have hP : va_P D vwCl [(a 5, .inr (2, [.int (P 0 4), .ref (a 50), .ref (a 51), .ref (a 52), .ref (a 53), .ref (a 54), .ref (a 55), .ref (a 56), .ref (a 57), .ref (a 58), .ref (a 59)])), (a 54, .inl (cI, 60, .inl (P 54))), (a 55, .inl (cI, 60, .inl (P 55)))] s.heap := hP
  have hl := lv_entry ([.ref (a 5), .int (nI xo), .int (nI xl)]) (n := 3) (Nat.le_of_ble_eq_true rfl)
  rw [lg_entry_eq]
  generalize (lg_sl ([.ref (a 5), .int (nI xo), .int (nI xl)]) ++ List.replicate (3 - (lg_sl ([.ref (a 5), .int (nI xo), .int (nI xl)])).length) Slot.unset).toArray = ls at hl ⊢
  have hl : lv_has ls 3 [(0, .ref (a 5)), (1, .int (nI xo)), (2, .int (nI xl))] := hl
  have in2 : ∀ w ∈ u_ws RX2 TX2 11, w ∈ wsX2_comesAhead := by decide +kernel
  refine lv_aload_n hx hb dX2_comesAhead_0 rfl (lv_at hl 0 rfl) ?_
  refine va_get (D := D) (ci := 2) (v := .ref (a 55)) (C := RX2) (T := TX2) (N := 11) hx hb hts in2 hown hK hP 0 rfl rfl 6 (by decide) (hts (.fieldLink RX2 27 "Granary$Orders" "rank" "[I") (by decide +kernel)) (fun _ h9 => h9) rfl dX2_comesAhead_1 ?_
  refine lv_iload_n hx hb dX2_comesAhead_4 rfl (lv_at hl 1 rfl) ?_
  refine sg_iald hx hb hK hP 2 0 rfl rfl (j := xo) rfl (by omega) (Nat.le_of_ble_eq_true rfl) dX2_comesAhead_5 ?_
  refine lv_toi (y := P 55 xo) rfl ?_
  refine lv_aload_n hx hb dX2_comesAhead_6 rfl (lv_at hl 0 rfl) ?_
  refine va_get (D := D) (ci := 2) (v := .ref (a 55)) (C := RX2) (T := TX2) (N := 11) hx hb hts in2 hown hK hP 0 rfl rfl 6 (by decide) (hts (.fieldLink RX2 27 "Granary$Orders" "rank" "[I") (by decide +kernel)) (fun _ h9 => h9) rfl dX2_comesAhead_7 ?_
  refine lv_iload_n hx hb dX2_comesAhead_10 rfl (lv_at hl 2 rfl) ?_
  refine sg_iald hx hb hK hP 2 0 rfl rfl (j := xl) rfl (by omega) (Nat.le_of_ble_eq_true rfl) dX2_comesAhead_11 ?_
  refine lv_toi (y := P 55 xl) rfl ?_
  refine lv_icmp_eq (tgt := 36) hx hb dX2_comesAhead_12 (by decide) (fun c_1 => ?_) (fun c_1 => ?_)
  · refine lv_aload_n hx hb dX2_comesAhead_36 rfl (lv_at hl 0 rfl) ?_
    refine va_get (D := D) (ci := 2) (v := .ref (a 54)) (C := RX2) (T := TX2) (N := 11) hx hb hts in2 hown hK hP 0 rfl rfl 5 (by decide) (hts (.fieldLink RX2 24 "Granary$Orders" "due" "[I") (by decide +kernel)) (fun _ h9 => h9) rfl dX2_comesAhead_37 ?_
    refine lv_iload_n hx hb dX2_comesAhead_40 rfl (lv_at hl 1 rfl) ?_
    refine sg_iald hx hb hK hP 1 0 rfl rfl (j := xo) rfl (by omega) (Nat.le_of_ble_eq_true rfl) dX2_comesAhead_41 ?_
    refine lv_toi (y := P 54 xo) rfl ?_
    refine lv_aload_n hx hb dX2_comesAhead_42 rfl (lv_at hl 0 rfl) ?_
    refine va_get (D := D) (ci := 2) (v := .ref (a 54)) (C := RX2) (T := TX2) (N := 11) hx hb hts in2 hown hK hP 0 rfl rfl 5 (by decide) (hts (.fieldLink RX2 24 "Granary$Orders" "due" "[I") (by decide +kernel)) (fun _ h9 => h9) rfl dX2_comesAhead_43 ?_
    refine lv_iload_n hx hb dX2_comesAhead_46 rfl (lv_at hl 2 rfl) ?_
    refine sg_iald hx hb hK hP 1 0 rfl rfl (j := xl) rfl (by omega) (Nat.le_of_ble_eq_true rfl) dX2_comesAhead_47 ?_
    refine lv_toi (y := P 54 xl) rfl ?_
    refine lv_icmp_eq (tgt := 72) hx hb dX2_comesAhead_48 (by decide) (fun c_2 => ?_) (fun c_2 => ?_)
    · refine lv_iload_n hx hb dX2_comesAhead_72 rfl (lv_at hl 1 rfl) ?_
      refine lv_iload_n hx hb dX2_comesAhead_73 rfl (lv_at hl 2 rfl) ?_
      refine lv_icmp_ge (tgt := 81) hx hb dX2_comesAhead_74 (by decide) (fun c_3 => ?_) (fun c_3 => ?_)
      · refine lv_iconst (v := 0) hx hb dX2_comesAhead_81 (by decide) ?_
        exact W.zret (ty := .boolean) (v := 0) hx hb hr (by decide) (fun t ht hW => ⟨0, rfl, (show (0 : Int32) = sg_comesAhead P xo xl from by rw [sg_comesAhead, if_pos c_1, if_pos c_2, if_pos c_3]), ht⟩) hL dX2_comesAhead_82
      · refine lv_iconst (v := 1) hx hb dX2_comesAhead_77 (by decide) ?_
        refine lv_goto (tgt := 82) hx hb dX2_comesAhead_78 (by decide) ?_
        exact W.zret (ty := .boolean) (v := 1) hx hb hr (by decide) (fun t ht hW => ⟨1, rfl, (show (1 : Int32) = sg_comesAhead P xo xl from by rw [sg_comesAhead, if_pos c_1, if_pos c_2, if_neg c_3]), ht⟩) hL dX2_comesAhead_82
    · refine lv_aload_n hx hb dX2_comesAhead_51 rfl (lv_at hl 0 rfl) ?_
      refine va_get (D := D) (ci := 2) (v := .ref (a 54)) (C := RX2) (T := TX2) (N := 11) hx hb hts in2 hown hK hP 0 rfl rfl 5 (by decide) (hts (.fieldLink RX2 24 "Granary$Orders" "due" "[I") (by decide +kernel)) (fun _ h9 => h9) rfl dX2_comesAhead_52 ?_
      refine lv_iload_n hx hb dX2_comesAhead_55 rfl (lv_at hl 1 rfl) ?_
      refine sg_iald hx hb hK hP 1 0 rfl rfl (j := xo) rfl (by omega) (Nat.le_of_ble_eq_true rfl) dX2_comesAhead_56 ?_
      refine lv_toi (y := P 54 xo) rfl ?_
      refine lv_aload_n hx hb dX2_comesAhead_57 rfl (lv_at hl 0 rfl) ?_
      refine va_get (D := D) (ci := 2) (v := .ref (a 54)) (C := RX2) (T := TX2) (N := 11) hx hb hts in2 hown hK hP 0 rfl rfl 5 (by decide) (hts (.fieldLink RX2 24 "Granary$Orders" "due" "[I") (by decide +kernel)) (fun _ h9 => h9) rfl dX2_comesAhead_58 ?_
      refine lv_iload_n hx hb dX2_comesAhead_61 rfl (lv_at hl 2 rfl) ?_
      refine sg_iald hx hb hK hP 1 0 rfl rfl (j := xl) rfl (by omega) (Nat.le_of_ble_eq_true rfl) dX2_comesAhead_62 ?_
      refine lv_toi (y := P 54 xl) rfl ?_
      refine lv_icmp_ge (tgt := 70) hx hb dX2_comesAhead_63 (by decide) (fun c_4 => ?_) (fun c_4 => ?_)
      · refine lv_iconst (v := 0) hx hb dX2_comesAhead_70 (by decide) ?_
        exact W.zret (ty := .boolean) (v := 0) hx hb hr (by decide) (fun t ht hW => ⟨0, rfl, (show (0 : Int32) = sg_comesAhead P xo xl from by rw [sg_comesAhead, if_pos c_1, if_neg c_2, if_pos c_4]), ht⟩) hL dX2_comesAhead_71
      · refine lv_iconst (v := 1) hx hb dX2_comesAhead_66 (by decide) ?_
        refine lv_goto (tgt := 71) hx hb dX2_comesAhead_67 (by decide) ?_
        exact W.zret (ty := .boolean) (v := 1) hx hb hr (by decide) (fun t ht hW => ⟨1, rfl, (show (1 : Int32) = sg_comesAhead P xo xl from by rw [sg_comesAhead, if_pos c_1, if_neg c_2, if_neg c_4]), ht⟩) hL dX2_comesAhead_71
  · refine lv_aload_n hx hb dX2_comesAhead_15 rfl (lv_at hl 0 rfl) ?_
    refine va_get (D := D) (ci := 2) (v := .ref (a 55)) (C := RX2) (T := TX2) (N := 11) hx hb hts in2 hown hK hP 0 rfl rfl 6 (by decide) (hts (.fieldLink RX2 27 "Granary$Orders" "rank" "[I") (by decide +kernel)) (fun _ h9 => h9) rfl dX2_comesAhead_16 ?_
    refine lv_iload_n hx hb dX2_comesAhead_19 rfl (lv_at hl 1 rfl) ?_
    refine sg_iald hx hb hK hP 2 0 rfl rfl (j := xo) rfl (by omega) (Nat.le_of_ble_eq_true rfl) dX2_comesAhead_20 ?_
    refine lv_toi (y := P 55 xo) rfl ?_
    refine lv_aload_n hx hb dX2_comesAhead_21 rfl (lv_at hl 0 rfl) ?_
    refine va_get (D := D) (ci := 2) (v := .ref (a 55)) (C := RX2) (T := TX2) (N := 11) hx hb hts in2 hown hK hP 0 rfl rfl 6 (by decide) (hts (.fieldLink RX2 27 "Granary$Orders" "rank" "[I") (by decide +kernel)) (fun _ h9 => h9) rfl dX2_comesAhead_22 ?_
    refine lv_iload_n hx hb dX2_comesAhead_25 rfl (lv_at hl 2 rfl) ?_
    refine sg_iald hx hb hK hP 2 0 rfl rfl (j := xl) rfl (by omega) (Nat.le_of_ble_eq_true rfl) dX2_comesAhead_26 ?_
    refine lv_toi (y := P 55 xl) rfl ?_
    refine lv_icmp_ge (tgt := 34) hx hb dX2_comesAhead_27 (by decide) (fun c_5 => ?_) (fun c_5 => ?_)
    · refine lv_iconst (v := 0) hx hb dX2_comesAhead_34 (by decide) ?_
      exact W.zret (ty := .boolean) (v := 0) hx hb hr (by decide) (fun t ht hW => ⟨0, rfl, (show (0 : Int32) = sg_comesAhead P xo xl from by rw [sg_comesAhead, if_neg c_1, if_pos c_5]), ht⟩) hL dX2_comesAhead_35
    · refine lv_iconst (v := 1) hx hb dX2_comesAhead_30 (by decide) ?_
      refine lv_goto (tgt := 35) hx hb dX2_comesAhead_31 (by decide) ?_
      exact W.zret (ty := .boolean) (v := 1) hx hb hr (by decide) (fun t ht hW => ⟨1, rfl, (show (1 : Int32) = sg_comesAhead P xo xl from by rw [sg_comesAhead, if_neg c_1, if_neg c_5]), ht⟩) hL dX2_comesAhead_35

def sg_freeOf (P : sg_Pic) (xl : Nat) : Int32 := ((P 42 xl) - (P 43 xl))

set_option maxHeartbeats 4000000 in
set_option maxRecDepth 100000 in
/-- X1_freeOf -/
theorem c_freeOf (l : Launch) (D : va_G) (cI cZ cJ : ClassId) (lo sz : Nat) (a : Nat → Nat) (P : sg_Pic) (xl : Nat) (hl0 : xl < 200) : Met l yX1_freeOf wsX1_freeOf ({ frames := 0, cells := 0, slots := 0, locals := 0 }) (Pre lo D cI cZ cJ [.ref (a 4), .int (nI xl)] sz [(a 4, .inr (1, [.int (P 0 3), .ref (a 40), .ref (a 41), .ref (a 42), .ref (a 43), .ref (a 44)])), (a 42, .inl (cI, 200, .inl (P 42))), (a 43, .inl (cI, 200, .inl (P 43)))]) (vp_Si (fun r => r = sg_freeOf P xl)) 0 0 (fun _ => False) := by
  refine Met.ofW (cc := cX1_freeOf) (maxL := 2) (ret := (some .int)) (by decide) rfl ?_
  intro p e s m args below meth c s₁ B hml hv
  obtain ⟨rfl, hsz, hP, hD0, hC⟩ := hv
  have hx := B.exec
  have hb := B.bytes
  have hr := B.returns
  have hts := atoms_spec (ws := wsX1_freeOf) B.pre
  have hown : s.vm.findClass RX1 = some m.cls := findClass_of_methodNamed B.named
  have hlocks := B.notSynchronized
  subst hsz
  have hK := hC.K
  have hD := hD0
  have hS : va_S (fun q => lo ≤ q) s.heap s.heap [] := va_S.rf
  have hAlo : ∀ q, (fun q => lo ≤ q) q → lo ≤ q := fun _ h => h
  have hL : ∀ q ∈ ([] : List Loc), (fun _ : Addr => False) q.base := fun q h => by cases h
  have hP : va_P D vwCl [(a 4, .inr (1, [.int (P 0 3), .ref (a 40), .ref (a 41), .ref (a 42), .ref (a 43), .ref (a 44)])), (a 42, .inl (cI, 200, .inl (P 42))), (a 43, .inl (cI, 200, .inl (P 43)))] s.heap := hP
  have hl := lv_entry ([.ref (a 4), .int (nI xl)]) (n := 2) (Nat.le_of_ble_eq_true rfl)
  rw [lg_entry_eq]
  generalize (lg_sl ([.ref (a 4), .int (nI xl)]) ++ List.replicate (2 - (lg_sl ([.ref (a 4), .int (nI xl)])).length) Slot.unset).toArray = ls at hl ⊢
  have hl : lv_has ls 2 [(0, .ref (a 4)), (1, .int (nI xl))] := hl
  have in1 : ∀ w ∈ u_ws RX1 TX1 6, w ∈ wsX1_freeOf := by decide +kernel
  refine lv_aload_n hx hb dX1_freeOf_0 rfl (lv_at hl 0 rfl) ?_
  refine va_get (D := D) (ci := 1) (v := .ref (a 42)) (C := RX1) (T := TX1) (N := 6) hx hb hts in1 hown hK hP 0 rfl rfl 3 (by decide) (hts (.fieldLink RX1 18 "Granary$Lots" "units" "[I") (by decide +kernel)) (fun _ h9 => h9) rfl dX1_freeOf_1 ?_
  refine lv_iload_n hx hb dX1_freeOf_4 rfl (lv_at hl 1 rfl) ?_
  refine sg_iald hx hb hK hP 1 0 rfl rfl (j := xl) rfl (by omega) (Nat.le_of_ble_eq_true rfl) dX1_freeOf_5 ?_
  refine lv_toi (y := P 42 xl) rfl ?_
  refine lv_aload_n hx hb dX1_freeOf_6 rfl (lv_at hl 0 rfl) ?_
  refine va_get (D := D) (ci := 1) (v := .ref (a 43)) (C := RX1) (T := TX1) (N := 6) hx hb hts in1 hown hK hP 0 rfl rfl 4 (by decide) (hts (.fieldLink RX1 21 "Granary$Lots" "reserved" "[I") (by decide +kernel)) (fun _ h9 => h9) rfl dX1_freeOf_7 ?_
  refine lv_iload_n hx hb dX1_freeOf_10 rfl (lv_at hl 1 rfl) ?_
  refine sg_iald hx hb hK hP 2 0 rfl rfl (j := xl) rfl (by omega) (Nat.le_of_ble_eq_true rfl) dX1_freeOf_11 ?_
  refine lv_toi (y := P 43 xl) rfl ?_
  refine lv_isub hx hb dX1_freeOf_12 ?_
  exact W.iret (v := ((P 42 xl) - (P 43 xl))) hx hb hr (fun t ht hW => ⟨((P 42 xl) - (P 43 xl)), rfl, rfl, ht⟩) hL dX1_freeOf_13

set_option maxHeartbeats 4000000 in
set_option maxRecDepth 100000 in
/-- X8_pair -/
theorem c_pair (l : Launch) (D : va_G) (cI cZ cJ : ClassId) (lo sz : Nat) (xi : Nat) (xs : Nat) : Met l yX8_pair wsX8_pair ({ frames := 0, cells := 0, slots := 0, locals := 0 }) (Pre lo D cI cZ cJ [.int (nI xi), .int (nI xs)] sz []) (vp_Si (fun r => r = nI ((xi * 5) + xs))) 0 0 (fun _ => False) := by
  refine Met.ofW (cc := cX8_pair) (maxL := 2) (ret := (some .int)) (by decide) rfl ?_
  intro p e s m args below meth c s₁ B hml hv
  obtain ⟨rfl, hsz, hP, hD0, hC⟩ := hv
  have hx := B.exec
  have hb := B.bytes
  have hr := B.returns
  have hts := atoms_spec (ws := wsX8_pair) B.pre
  have hown : s.vm.findClass RX8 = some m.cls := findClass_of_methodNamed B.named
  have hlocks := B.notSynchronized
  subst hsz
  have hK := hC.K
  have hD := hD0
  have hS : va_S (fun q => lo ≤ q) s.heap s.heap [] := va_S.rf
  have hAlo : ∀ q, (fun q => lo ≤ q) q → lo ≤ q := fun _ h => h
  have hL : ∀ q ∈ ([] : List Loc), (fun _ : Addr => False) q.base := fun q h => by cases h
  have hP : va_P D vwCl [] s.heap := hP
  have hl := lv_entry ([.int (nI xi), .int (nI xs)]) (n := 2) (Nat.le_of_ble_eq_true rfl)
  rw [lg_entry_eq]
  generalize (lg_sl ([.int (nI xi), .int (nI xs)]) ++ List.replicate (2 - (lg_sl ([.int (nI xi), .int (nI xs)])).length) Slot.unset).toArray = ls at hl ⊢
  have hl : lv_has ls 2 [(0, .int (nI xi)), (1, .int (nI xs))] := hl
  refine lv_iload_n hx hb dX8_pair_0 rfl (lv_at hl 0 rfl) ?_
  refine lv_iconst (v := 5) hx hb dX8_pair_1 (by decide) ?_
  refine lv_imul hx hb dX8_pair_2 ?_
  refine lv_toi (y := nI (xi * 5)) (sg_mulN xi 5) ?_
  refine lv_iload_n hx hb dX8_pair_3 rfl (lv_at hl 1 rfl) ?_
  refine lv_iadd hx hb dX8_pair_4 ?_
  refine lv_toi (y := nI ((xi * 5) + xs)) (nI_add (xi * 5) xs) ?_
  exact W.iret (v := (nI ((xi * 5) + xs))) hx hb hr (fun t ht hW => ⟨(nI ((xi * 5) + xs)), rfl, rfl, ht⟩) hL dX8_pair_5

def sg_unitsUpTo_6 (P : sg_Pic) (x : Int32) (y : Int32) (z : Int32) : Nat → Int32
  | 0 => 0
  | j6 + 1 => (if (P 40 j6) = x then (if (P 41 j6) = y then (if z < (P 44 j6) then (sg_unitsUpTo_6 P x y z j6) else ((sg_unitsUpTo_6 P x y z j6) + (P 42 j6))) else (sg_unitsUpTo_6 P x y z j6)) else (sg_unitsUpTo_6 P x y z j6))

def sg_unitsUpTo (P : sg_Pic) (x : Int32) (y : Int32) (z : Int32) : Int32 := (sg_unitsUpTo_6 P x y z (sg_cn P 3))

set_option maxHeartbeats 4000000 in
set_option maxRecDepth 100000 in
/-- X1_unitsUpTo -/
theorem c_unitsUpTo (l : Launch) (D : va_G) (cI cZ cJ : ClassId) (lo sz : Nat) (a : Nat → Nat) (P : sg_Pic) (x : Int32) (y : Int32) (z : Int32) (hw : sg_W P) : Met l yX1_unitsUpTo wsX1_unitsUpTo ({ frames := 0, cells := 0, slots := 0, locals := 0 }) (Pre lo D cI cZ cJ [.ref (a 4), .int x, .int y, .int z] sz [(a 4, .inr (1, [.int (P 0 3), .ref (a 40), .ref (a 41), .ref (a 42), .ref (a 43), .ref (a 44)])), (a 40, .inl (cI, 200, .inl (P 40))), (a 41, .inl (cI, 200, .inl (P 41))), (a 42, .inl (cI, 200, .inl (P 42))), (a 43, .inl (cI, 200, .inl (P 43))), (a 44, .inl (cI, 200, .inl (P 44)))]) (vp_Si (fun r => r = sg_unitsUpTo P x y z)) 0 0 (fun _ => False) := by
  refine Met.ofW (cc := cX1_unitsUpTo) (maxL := 6) (ret := (some .int)) (by decide) rfl ?_
  intro p e s m args below meth c s₁ B hml hv
  obtain ⟨rfl, hsz, hP, hD0, hC⟩ := hv
  have hx := B.exec
  have hb := B.bytes
  have hr := B.returns
  have hts := atoms_spec (ws := wsX1_unitsUpTo) B.pre
  have hown : s.vm.findClass RX1 = some m.cls := findClass_of_methodNamed B.named
  have hlocks := B.notSynchronized
  subst hsz
  have hn1 : sg_cn P 1 ≤ 6 := hw.n1
  have hn2 : sg_cn P 2 ≤ 5 := hw.n2
  have hn3 : sg_cn P 3 ≤ 200 := hw.n3
  have hn4 : sg_cn P 4 ≤ 60 := hw.n4
  have hn5 : sg_cn P 5 ≤ 90 := hw.n5
  have hK := hC.K
  have hD := hD0
  have hS : va_S (fun q => lo ≤ q) s.heap s.heap [] := va_S.rf
  have hAlo : ∀ q, (fun q => lo ≤ q) q → lo ≤ q := fun _ h => h
  have hL : ∀ q ∈ ([] : List Loc), (fun _ : Addr => False) q.base := fun q h => by cases h
  have hP : va_P D vwCl [(a 4, .inr (1, [.int (P 0 3), .ref (a 40), .ref (a 41), .ref (a 42), .ref (a 43), .ref (a 44)])), (a 40, .inl (cI, 200, .inl (P 40))), (a 41, .inl (cI, 200, .inl (P 41))), (a 42, .inl (cI, 200, .inl (P 42))), (a 43, .inl (cI, 200, .inl (P 43))), (a 44, .inl (cI, 200, .inl (P 44)))] s.heap := hP
  have hl := lv_entry ([.ref (a 4), .int x, .int y, .int z]) (n := 6) (Nat.le_of_ble_eq_true rfl)
  rw [lg_entry_eq]
  generalize (lg_sl ([.ref (a 4), .int x, .int y, .int z]) ++ List.replicate (6 - (lg_sl ([.ref (a 4), .int x, .int y, .int z])).length) Slot.unset).toArray = ls at hl ⊢
  have hl : lv_has ls 6 [(0, .ref (a 4)), (1, .int x), (2, .int y), (3, .int z)] := hl
  have in1 : ∀ w ∈ u_ws RX1 TX1 6, w ∈ wsX1_unitsUpTo := by decide +kernel
  refine lv_iconst (v := 0) hx hb dX1_unitsUpTo_0 (by decide) ?_
  refine lv_istore (lv' := [(4, .int 0), (0, .ref (a 4)), (1, .int x), (2, .int y), (3, .int z)]) hx hb dX1_unitsUpTo_1 hl (by decide) rfl (fun ls hl => ?_)
  refine lv_iconst (v := 0) hx hb dX1_unitsUpTo_3 (by decide) ?_
  refine lv_istore (lv' := [(5, .int 0), (4, .int 0), (0, .ref (a 4)), (1, .int x), (2, .int y), (3, .int z)]) hx hb dX1_unitsUpTo_4 hl (by decide) rfl (fun ls hl => ?_)
  obtain ⟨j6, h0j6⟩ : ∃ j : Nat, j = 0 := ⟨_, rfl⟩
  obtain ⟨x6_4, hx6_4⟩ : ∃ z9 : Int32, z9 = sg_unitsUpTo_6 P x y z j6 := ⟨_, rfl⟩
  replace hl : lv_has ls 6 [(5, .int (nI j6)), (4, .int x6_4), (0, .ref (a 4)), (1, .int x), (2, .int y), (3, .int z)] := by rw [hx6_4, h0j6]; exact hl
  have hjj6 : j6 ≤ sg_cn P 3 := by omega
  clear h0j6
  obtain ⟨n6, hn6⟩ : ∃ n : Nat, sg_cn P 3 < j6 + n := ⟨sg_cn P 3 + 1, by omega⟩
  revert hl
  revert hn6
  revert hjj6
  revert hx6_4
  revert ls
  revert x6_4
  revert j6
  induction n6 with
  | zero =>
    intro j6 x6_4 ls hx6_4 hjj6 hn6 hl
    exact absurd hn6 (by omega)
  | succ n6 ih6 =>
    intro j6 x6_4 ls hx6_4 hjj6 hn6 hl
    refine lv_iload hx hb dX1_unitsUpTo_6 (lv_at hl 0 rfl) ?_
    refine lv_aload_n hx hb dX1_unitsUpTo_8 rfl (lv_at hl 2 rfl) ?_
    refine va_get (D := D) (ci := 1) (v := .int (P 0 3)) (C := RX1) (T := TX1) (N := 6) hx hb hts in1 hown hK hP 0 rfl rfl 0 (by decide) (hts (.fieldLink RX1 27 "Granary$Lots" "count" "I") (by decide +kernel)) (fun _ h9 => h9) rfl dX1_unitsUpTo_9 ?_
    have hB6 : ((P 0 3) : Int32) = nI (sg_cn P 3) := (hw.e3)
    refine lv_icmp_ge (tgt := 66) hx hb dX1_unitsUpTo_12 (by decide) (fun c_1 => ?_) (fun c_1 => ?_)
    · have hE6 : j6 = sg_cn P 3 := sg_eq hB6 c_1 hjj6 (by omega)
      clear ih6 hn6
      subst hE6
      subst hx6_4
      refine lv_iload hx hb dX1_unitsUpTo_66 (lv_at hl 1 rfl) ?_
      exact W.iret (v := (sg_unitsUpTo_6 P x y z (sg_cn P 3))) hx hb hr (fun t ht hW => ⟨(sg_unitsUpTo_6 P x y z (sg_cn P 3)), rfl, rfl, ht⟩) hL dX1_unitsUpTo_68
    · have hL6 : j6 < sg_cn P 3 := sg_lt hB6 c_1 (by omega)
      refine lv_aload_n hx hb dX1_unitsUpTo_15 rfl (lv_at hl 2 rfl) ?_
      refine va_get (D := D) (ci := 1) (v := .ref (a 40)) (C := RX1) (T := TX1) (N := 6) hx hb hts in1 hown hK hP 0 rfl rfl 1 (by decide) (hts (.fieldLink RX1 9 "Granary$Lots" "item" "[I") (by decide +kernel)) (fun _ h9 => h9) rfl dX1_unitsUpTo_16 ?_
      refine lv_iload hx hb dX1_unitsUpTo_19 (lv_at hl 0 rfl) ?_
      refine sg_iald hx hb hK hP 1 0 rfl rfl (j := j6) rfl (by omega) (Nat.le_of_ble_eq_true rfl) dX1_unitsUpTo_21 ?_
      refine lv_toi (y := P 40 j6) rfl ?_
      refine lv_iload_n hx hb dX1_unitsUpTo_22 rfl (lv_at hl 3 rfl) ?_
      refine lv_icmp_ne (tgt := 60) hx hb dX1_unitsUpTo_23 (by decide) (fun c_2 => ?_) (fun c_2 => ?_)
      · refine lv_iinc (v := nI (j6 + 1)) (lv' := [(5, .int (nI (j6 + 1))), (4, .int x6_4), (0, .ref (a 4)), (1, .int x), (2, .int y), (3, .int z)]) hx hb dX1_unitsUpTo_60 hl (k := 0) rfl (nI_1 j6) (by decide) rfl (fun ls hl => ?_)
        refine lv_goto (tgt := 6) hx hb dX1_unitsUpTo_63 (by decide) ?_
        have hl8 := hl
        subst hx6_4
        exact ih6 (j6 + 1) (sg_unitsUpTo_6 P x y z j6) _ (show ((sg_unitsUpTo_6 P x y z j6) : Int32) = sg_unitsUpTo_6 P x y z (j6 + 1) from by rw [sg_unitsUpTo_6, if_neg c_2]) (by omega) (by omega) (lv_sub hl8 [0, 1, 2, 3, 4, 5] rfl)
      · refine lv_aload_n hx hb dX1_unitsUpTo_26 rfl (lv_at hl 2 rfl) ?_
        refine va_get (D := D) (ci := 1) (v := .ref (a 41)) (C := RX1) (T := TX1) (N := 6) hx hb hts in1 hown hK hP 0 rfl rfl 2 (by decide) (hts (.fieldLink RX1 15 "Granary$Lots" "site" "[I") (by decide +kernel)) (fun _ h9 => h9) rfl dX1_unitsUpTo_27 ?_
        refine lv_iload hx hb dX1_unitsUpTo_30 (lv_at hl 0 rfl) ?_
        refine sg_iald hx hb hK hP 2 0 rfl rfl (j := j6) rfl (by omega) (Nat.le_of_ble_eq_true rfl) dX1_unitsUpTo_32 ?_
        refine lv_toi (y := P 41 j6) rfl ?_
        refine lv_iload_n hx hb dX1_unitsUpTo_33 rfl (lv_at hl 4 rfl) ?_
        refine lv_icmp_ne (tgt := 60) hx hb dX1_unitsUpTo_34 (by decide) (fun c_3 => ?_) (fun c_3 => ?_)
        · refine lv_iinc (v := nI (j6 + 1)) (lv' := [(5, .int (nI (j6 + 1))), (4, .int x6_4), (0, .ref (a 4)), (1, .int x), (2, .int y), (3, .int z)]) hx hb dX1_unitsUpTo_60 hl (k := 0) rfl (nI_1 j6) (by decide) rfl (fun ls hl => ?_)
          refine lv_goto (tgt := 6) hx hb dX1_unitsUpTo_63 (by decide) ?_
          have hl8 := hl
          subst hx6_4
          exact ih6 (j6 + 1) (sg_unitsUpTo_6 P x y z j6) _ (show ((sg_unitsUpTo_6 P x y z j6) : Int32) = sg_unitsUpTo_6 P x y z (j6 + 1) from by rw [sg_unitsUpTo_6, if_pos c_2, if_neg c_3]) (by omega) (by omega) (lv_sub hl8 [0, 1, 2, 3, 4, 5] rfl)
        · refine lv_aload_n hx hb dX1_unitsUpTo_37 rfl (lv_at hl 2 rfl) ?_
          refine va_get (D := D) (ci := 1) (v := .ref (a 44)) (C := RX1) (T := TX1) (N := 6) hx hb hts in1 hown hK hP 0 rfl rfl 5 (by decide) (hts (.fieldLink RX1 24 "Granary$Lots" "last" "[I") (by decide +kernel)) (fun _ h9 => h9) rfl dX1_unitsUpTo_38 ?_
          refine lv_iload hx hb dX1_unitsUpTo_41 (lv_at hl 0 rfl) ?_
          refine sg_iald hx hb hK hP 5 0 rfl rfl (j := j6) rfl (by omega) (Nat.le_of_ble_eq_true rfl) dX1_unitsUpTo_43 ?_
          refine lv_toi (y := P 44 j6) rfl ?_
          refine lv_iload_n hx hb dX1_unitsUpTo_44 rfl (lv_at hl 5 rfl) ?_
          refine lv_icmp_gt (tgt := 60) hx hb dX1_unitsUpTo_45 (by decide) (fun c_4 => ?_) (fun c_4 => ?_)
          · refine lv_iinc (v := nI (j6 + 1)) (lv' := [(5, .int (nI (j6 + 1))), (4, .int x6_4), (0, .ref (a 4)), (1, .int x), (2, .int y), (3, .int z)]) hx hb dX1_unitsUpTo_60 hl (k := 0) rfl (nI_1 j6) (by decide) rfl (fun ls hl => ?_)
            refine lv_goto (tgt := 6) hx hb dX1_unitsUpTo_63 (by decide) ?_
            have hl8 := hl
            subst hx6_4
            exact ih6 (j6 + 1) (sg_unitsUpTo_6 P x y z j6) _ (show ((sg_unitsUpTo_6 P x y z j6) : Int32) = sg_unitsUpTo_6 P x y z (j6 + 1) from by rw [sg_unitsUpTo_6, if_pos c_2, if_pos c_3, if_pos c_4]) (by omega) (by omega) (lv_sub hl8 [0, 1, 2, 3, 4, 5] rfl)
          · refine lv_iload hx hb dX1_unitsUpTo_48 (lv_at hl 1 rfl) ?_
            refine lv_aload_n hx hb dX1_unitsUpTo_50 rfl (lv_at hl 2 rfl) ?_
            refine va_get (D := D) (ci := 1) (v := .ref (a 42)) (C := RX1) (T := TX1) (N := 6) hx hb hts in1 hown hK hP 0 rfl rfl 3 (by decide) (hts (.fieldLink RX1 18 "Granary$Lots" "units" "[I") (by decide +kernel)) (fun _ h9 => h9) rfl dX1_unitsUpTo_51 ?_
            refine lv_iload hx hb dX1_unitsUpTo_54 (lv_at hl 0 rfl) ?_
            refine sg_iald hx hb hK hP 3 0 rfl rfl (j := j6) rfl (by omega) (Nat.le_of_ble_eq_true rfl) dX1_unitsUpTo_56 ?_
            refine lv_toi (y := P 42 j6) rfl ?_
            refine lv_iadd hx hb dX1_unitsUpTo_57 ?_
            refine lv_istore (lv' := [(4, .int (x6_4 + (P 42 j6))), (5, .int (nI j6)), (0, .ref (a 4)), (1, .int x), (2, .int y), (3, .int z)]) hx hb dX1_unitsUpTo_58 hl (by decide) rfl (fun ls hl => ?_)
            refine lv_iinc (v := nI (j6 + 1)) (lv' := [(5, .int (nI (j6 + 1))), (4, .int (x6_4 + (P 42 j6))), (0, .ref (a 4)), (1, .int x), (2, .int y), (3, .int z)]) hx hb dX1_unitsUpTo_60 hl (k := 1) rfl (nI_1 j6) (by decide) rfl (fun ls hl => ?_)
            refine lv_goto (tgt := 6) hx hb dX1_unitsUpTo_63 (by decide) ?_
            have hl8 := hl
            subst hx6_4
            exact ih6 (j6 + 1) ((sg_unitsUpTo_6 P x y z j6) + (P 42 j6)) _ (show ((sg_unitsUpTo_6 P x y z j6) + (P 42 j6) : Int32) = sg_unitsUpTo_6 P x y z (j6 + 1) from by rw [sg_unitsUpTo_6, if_pos c_2, if_pos c_3, if_neg c_4]) (by omega) (by omega) (lv_sub hl8 [0, 1, 2, 3, 4, 5] rfl)

def sg_freeFrom_6 (P : sg_Pic) (x : Int32) (y : Int32) (z : Int32) : Nat → Int32
  | 0 => 0
  | j6 + 1 => (if (P 40 j6) = x then (if (P 41 j6) = y then (if (P 44 j6) < z then (sg_freeFrom_6 P x y z j6) else ((sg_freeFrom_6 P x y z j6) + (sg_freeOf P j6))) else (sg_freeFrom_6 P x y z j6)) else (sg_freeFrom_6 P x y z j6))

def sg_freeFrom (P : sg_Pic) (x : Int32) (y : Int32) (z : Int32) : Int32 := (sg_freeFrom_6 P x y z (sg_cn P 3))

set_option maxHeartbeats 4000000 in
set_option maxRecDepth 100000 in
/-- X1_freeFrom -/
theorem c_freeFrom (l : Launch) (D : va_G) (cI cZ cJ : ClassId) (lo sz : Nat) (a : Nat → Nat) (P : sg_Pic) (x : Int32) (y : Int32) (z : Int32) (hw : sg_W P) : Met l yX1_freeFrom wsX1_freeFrom ({ frames := 1, cells := 0, slots := 0, locals := 21 }) (Pre lo D cI cZ cJ [.ref (a 4), .int x, .int y, .int z] sz [(a 4, .inr (1, [.int (P 0 3), .ref (a 40), .ref (a 41), .ref (a 42), .ref (a 43), .ref (a 44)])), (a 40, .inl (cI, 200, .inl (P 40))), (a 41, .inl (cI, 200, .inl (P 41))), (a 42, .inl (cI, 200, .inl (P 42))), (a 43, .inl (cI, 200, .inl (P 43))), (a 44, .inl (cI, 200, .inl (P 44)))]) (vp_Si (fun r => r = sg_freeFrom P x y z)) 0 0 (fun _ => False) := by
  refine Met.ofW (cc := cX1_freeFrom) (maxL := 6) (ret := (some .int)) (by decide) rfl ?_
  intro p e s m args below meth c s₁ B hml hv
  obtain ⟨rfl, hsz, hP, hD0, hC⟩ := hv
  have hx := B.exec
  have hb := B.bytes
  have hr := B.returns
  have hts := atoms_spec (ws := wsX1_freeFrom) B.pre
  have hown : s.vm.findClass RX1 = some m.cls := findClass_of_methodNamed B.named
  have hlocks := B.notSynchronized
  subst hsz
  have hn1 : sg_cn P 1 ≤ 6 := hw.n1
  have hn2 : sg_cn P 2 ≤ 5 := hw.n2
  have hn3 : sg_cn P 3 ≤ 200 := hw.n3
  have hn4 : sg_cn P 4 ≤ 60 := hw.n4
  have hn5 : sg_cn P 5 ≤ 90 := hw.n5
  have hK := hC.K
  have hD := hD0
  have hS : va_S (fun q => lo ≤ q) s.heap s.heap [] := va_S.rf
  have hAlo : ∀ q, (fun q => lo ≤ q) q → lo ≤ q := fun _ h => h
  have hL : ∀ q ∈ ([] : List Loc), (fun _ : Addr => False) q.base := fun q h => by cases h
  have hP : va_P D vwCl [(a 4, .inr (1, [.int (P 0 3), .ref (a 40), .ref (a 41), .ref (a 42), .ref (a 43), .ref (a 44)])), (a 40, .inl (cI, 200, .inl (P 40))), (a 41, .inl (cI, 200, .inl (P 41))), (a 42, .inl (cI, 200, .inl (P 42))), (a 43, .inl (cI, 200, .inl (P 43))), (a 44, .inl (cI, 200, .inl (P 44)))] s.heap := hP
  have hl := lv_entry ([.ref (a 4), .int x, .int y, .int z]) (n := 6) (Nat.le_of_ble_eq_true rfl)
  rw [lg_entry_eq]
  generalize (lg_sl ([.ref (a 4), .int x, .int y, .int z]) ++ List.replicate (6 - (lg_sl ([.ref (a 4), .int x, .int y, .int z])).length) Slot.unset).toArray = ls at hl ⊢
  have hl : lv_has ls 6 [(0, .ref (a 4)), (1, .int x), (2, .int y), (3, .int z)] := hl
  have in1 : ∀ w ∈ u_ws RX1 TX1 6, w ∈ wsX1_freeFrom := by decide +kernel
  refine lv_iconst (v := 0) hx hb dX1_freeFrom_0 (by decide) ?_
  refine lv_istore (lv' := [(4, .int 0), (0, .ref (a 4)), (1, .int x), (2, .int y), (3, .int z)]) hx hb dX1_freeFrom_1 hl (by decide) rfl (fun ls hl => ?_)
  refine lv_iconst (v := 0) hx hb dX1_freeFrom_3 (by decide) ?_
  refine lv_istore (lv' := [(5, .int 0), (4, .int 0), (0, .ref (a 4)), (1, .int x), (2, .int y), (3, .int z)]) hx hb dX1_freeFrom_4 hl (by decide) rfl (fun ls hl => ?_)
  obtain ⟨j6, h0j6⟩ : ∃ j : Nat, j = 0 := ⟨_, rfl⟩
  obtain ⟨x6_4, hx6_4⟩ : ∃ z9 : Int32, z9 = sg_freeFrom_6 P x y z j6 := ⟨_, rfl⟩
  replace hl : lv_has ls 6 [(5, .int (nI j6)), (4, .int x6_4), (0, .ref (a 4)), (1, .int x), (2, .int y), (3, .int z)] := by rw [hx6_4, h0j6]; exact hl
  have hjj6 : j6 ≤ sg_cn P 3 := by omega
  clear h0j6
  obtain ⟨n6, hn6⟩ : ∃ n : Nat, sg_cn P 3 < j6 + n := ⟨sg_cn P 3 + 1, by omega⟩
  revert hl
  revert hn6
  revert hjj6
  revert hx6_4
  revert ls
  revert x6_4
  revert j6
  induction n6 with
  | zero =>
    intro j6 x6_4 ls hx6_4 hjj6 hn6 hl
    exact absurd hn6 (by omega)
  | succ n6 ih6 =>
    intro j6 x6_4 ls hx6_4 hjj6 hn6 hl
    refine lv_iload hx hb dX1_freeFrom_6 (lv_at hl 0 rfl) ?_
    refine lv_aload_n hx hb dX1_freeFrom_8 rfl (lv_at hl 2 rfl) ?_
    refine va_get (D := D) (ci := 1) (v := .int (P 0 3)) (C := RX1) (T := TX1) (N := 6) hx hb hts in1 hown hK hP 0 rfl rfl 0 (by decide) (hts (.fieldLink RX1 27 "Granary$Lots" "count" "I") (by decide +kernel)) (fun _ h9 => h9) rfl dX1_freeFrom_9 ?_
    have hB6 : ((P 0 3) : Int32) = nI (sg_cn P 3) := (hw.e3)
    refine lv_icmp_ge (tgt := 65) hx hb dX1_freeFrom_12 (by decide) (fun c_1 => ?_) (fun c_1 => ?_)
    · have hE6 : j6 = sg_cn P 3 := sg_eq hB6 c_1 hjj6 (by omega)
      clear ih6 hn6
      subst hE6
      subst hx6_4
      refine lv_iload hx hb dX1_freeFrom_65 (lv_at hl 1 rfl) ?_
      exact W.iret (v := (sg_freeFrom_6 P x y z (sg_cn P 3))) hx hb hr (fun t ht hW => ⟨(sg_freeFrom_6 P x y z (sg_cn P 3)), rfl, rfl, ht⟩) hL dX1_freeFrom_67
    · have hL6 : j6 < sg_cn P 3 := sg_lt hB6 c_1 (by omega)
      refine lv_aload_n hx hb dX1_freeFrom_15 rfl (lv_at hl 2 rfl) ?_
      refine va_get (D := D) (ci := 1) (v := .ref (a 40)) (C := RX1) (T := TX1) (N := 6) hx hb hts in1 hown hK hP 0 rfl rfl 1 (by decide) (hts (.fieldLink RX1 9 "Granary$Lots" "item" "[I") (by decide +kernel)) (fun _ h9 => h9) rfl dX1_freeFrom_16 ?_
      refine lv_iload hx hb dX1_freeFrom_19 (lv_at hl 0 rfl) ?_
      refine sg_iald hx hb hK hP 1 0 rfl rfl (j := j6) rfl (by omega) (Nat.le_of_ble_eq_true rfl) dX1_freeFrom_21 ?_
      refine lv_toi (y := P 40 j6) rfl ?_
      refine lv_iload_n hx hb dX1_freeFrom_22 rfl (lv_at hl 3 rfl) ?_
      refine lv_icmp_ne (tgt := 59) hx hb dX1_freeFrom_23 (by decide) (fun c_2 => ?_) (fun c_2 => ?_)
      · refine lv_iinc (v := nI (j6 + 1)) (lv' := [(5, .int (nI (j6 + 1))), (4, .int x6_4), (0, .ref (a 4)), (1, .int x), (2, .int y), (3, .int z)]) hx hb dX1_freeFrom_59 hl (k := 0) rfl (nI_1 j6) (by decide) rfl (fun ls hl => ?_)
        refine lv_goto (tgt := 6) hx hb dX1_freeFrom_62 (by decide) ?_
        have hl8 := hl
        subst hx6_4
        exact ih6 (j6 + 1) (sg_freeFrom_6 P x y z j6) _ (show ((sg_freeFrom_6 P x y z j6) : Int32) = sg_freeFrom_6 P x y z (j6 + 1) from by rw [sg_freeFrom_6, if_neg c_2]) (by omega) (by omega) (lv_sub hl8 [0, 1, 2, 3, 4, 5] rfl)
      · refine lv_aload_n hx hb dX1_freeFrom_26 rfl (lv_at hl 2 rfl) ?_
        refine va_get (D := D) (ci := 1) (v := .ref (a 41)) (C := RX1) (T := TX1) (N := 6) hx hb hts in1 hown hK hP 0 rfl rfl 2 (by decide) (hts (.fieldLink RX1 15 "Granary$Lots" "site" "[I") (by decide +kernel)) (fun _ h9 => h9) rfl dX1_freeFrom_27 ?_
        refine lv_iload hx hb dX1_freeFrom_30 (lv_at hl 0 rfl) ?_
        refine sg_iald hx hb hK hP 2 0 rfl rfl (j := j6) rfl (by omega) (Nat.le_of_ble_eq_true rfl) dX1_freeFrom_32 ?_
        refine lv_toi (y := P 41 j6) rfl ?_
        refine lv_iload_n hx hb dX1_freeFrom_33 rfl (lv_at hl 4 rfl) ?_
        refine lv_icmp_ne (tgt := 59) hx hb dX1_freeFrom_34 (by decide) (fun c_3 => ?_) (fun c_3 => ?_)
        · refine lv_iinc (v := nI (j6 + 1)) (lv' := [(5, .int (nI (j6 + 1))), (4, .int x6_4), (0, .ref (a 4)), (1, .int x), (2, .int y), (3, .int z)]) hx hb dX1_freeFrom_59 hl (k := 0) rfl (nI_1 j6) (by decide) rfl (fun ls hl => ?_)
          refine lv_goto (tgt := 6) hx hb dX1_freeFrom_62 (by decide) ?_
          have hl8 := hl
          subst hx6_4
          exact ih6 (j6 + 1) (sg_freeFrom_6 P x y z j6) _ (show ((sg_freeFrom_6 P x y z j6) : Int32) = sg_freeFrom_6 P x y z (j6 + 1) from by rw [sg_freeFrom_6, if_pos c_2, if_neg c_3]) (by omega) (by omega) (lv_sub hl8 [0, 1, 2, 3, 4, 5] rfl)
        · refine lv_aload_n hx hb dX1_freeFrom_37 rfl (lv_at hl 2 rfl) ?_
          refine va_get (D := D) (ci := 1) (v := .ref (a 44)) (C := RX1) (T := TX1) (N := 6) hx hb hts in1 hown hK hP 0 rfl rfl 5 (by decide) (hts (.fieldLink RX1 24 "Granary$Lots" "last" "[I") (by decide +kernel)) (fun _ h9 => h9) rfl dX1_freeFrom_38 ?_
          refine lv_iload hx hb dX1_freeFrom_41 (lv_at hl 0 rfl) ?_
          refine sg_iald hx hb hK hP 5 0 rfl rfl (j := j6) rfl (by omega) (Nat.le_of_ble_eq_true rfl) dX1_freeFrom_43 ?_
          refine lv_toi (y := P 44 j6) rfl ?_
          refine lv_iload_n hx hb dX1_freeFrom_44 rfl (lv_at hl 5 rfl) ?_
          refine lv_icmp_lt (tgt := 59) hx hb dX1_freeFrom_45 (by decide) (fun c_4 => ?_) (fun c_4 => ?_)
          · refine lv_iinc (v := nI (j6 + 1)) (lv' := [(5, .int (nI (j6 + 1))), (4, .int x6_4), (0, .ref (a 4)), (1, .int x), (2, .int y), (3, .int z)]) hx hb dX1_freeFrom_59 hl (k := 0) rfl (nI_1 j6) (by decide) rfl (fun ls hl => ?_)
            refine lv_goto (tgt := 6) hx hb dX1_freeFrom_62 (by decide) ?_
            have hl8 := hl
            subst hx6_4
            exact ih6 (j6 + 1) (sg_freeFrom_6 P x y z j6) _ (show ((sg_freeFrom_6 P x y z j6) : Int32) = sg_freeFrom_6 P x y z (j6 + 1) from by rw [sg_freeFrom_6, if_pos c_2, if_pos c_3, if_pos c_4]) (by omega) (by omega) (lv_sub hl8 [0, 1, 2, 3, 4, 5] rfl)
          · refine lv_iload hx hb dX1_freeFrom_48 (lv_at hl 1 rfl) ?_
            refine lv_aload_n hx hb dX1_freeFrom_50 rfl (lv_at hl 2 rfl) ?_
            refine lv_iload hx hb dX1_freeFrom_51 (lv_at hl 0 rfl) ?_
            have hPc := hP.sub (ws' := [(a 4, .inr (1, [.int (P 0 3), .ref (a 40), .ref (a 41), .ref (a 42), .ref (a 43), .ref (a 44)])), (a 42, .inl (cI, 200, .inl (P 42))), (a 43, .inl (cI, 200, .inl (P 43)))]) [0, 3, 4] rfl
            have hDc := hD.sub (ws' := [(a 4, .inr (1, [.int (P 0 3), .ref (a 40), .ref (a 41), .ref (a 42), .ref (a 43), .ref (a 44)])), (a 42, .inl (cI, 200, .inl (P 42))), (a 43, .inl (cI, 200, .inl (P 43)))]) [0, 3, 4] (by decide) rfl
            refine vp_callSi (W.runV (As := [.int (nI j6)]) (rest := [.int x6_4]) ⟨hx, hb, hml, hown, hts⟩ (c_freeOf l D cI cZ cJ lo s.heap.size a P j6 (by omega)) (cwV 1 hts gX1_freeFrom_X1_freeOf rfl rfl rfl (by decide +kernel) ⟨(Nat.le_of_ble_eq_true rfl), (Nat.le_of_ble_eq_true rfl)⟩) ⟨Pre.blind, va_recv hK hP (ci := 1) (q0 := 0) rfl rfl, Pre.mk hPc (hDc.weaken (fun _ _ _ h => hAlo _ h)) hC hS hAlo⟩ rfl rfl hl.1 rfl (lv_room (Nat.le_of_ble_eq_true rfl)) dX1_freeFrom_53 ⟨(Nat.le_of_ble_eq_true rfl), (Nat.le_of_ble_eq_true rfl)⟩) (fun r_5 e_6 => ?_)
            clear hPc hDc
            have e_6 : sg_freeOf P j6 = r_5 := Eq.symm e_6
            subst e_6
            refine lv_iadd hx hb dX1_freeFrom_56 ?_
            refine lv_istore (lv' := [(4, .int (x6_4 + (sg_freeOf P j6))), (5, .int (nI j6)), (0, .ref (a 4)), (1, .int x), (2, .int y), (3, .int z)]) hx hb dX1_freeFrom_57 hl (by decide) rfl (fun ls hl => ?_)
            refine lv_iinc (v := nI (j6 + 1)) (lv' := [(5, .int (nI (j6 + 1))), (4, .int (x6_4 + (sg_freeOf P j6))), (0, .ref (a 4)), (1, .int x), (2, .int y), (3, .int z)]) hx hb dX1_freeFrom_59 hl (k := 1) rfl (nI_1 j6) (by decide) rfl (fun ls hl => ?_)
            refine lv_goto (tgt := 6) hx hb dX1_freeFrom_62 (by decide) ?_
            have hl8 := hl
            subst hx6_4
            exact ih6 (j6 + 1) ((sg_freeFrom_6 P x y z j6) + (sg_freeOf P j6)) _ (show ((sg_freeFrom_6 P x y z j6) + (sg_freeOf P j6) : Int32) = sg_freeFrom_6 P x y z (j6 + 1) from by rw [sg_freeFrom_6, if_pos c_2, if_pos c_3, if_neg c_4]) (by omega) (by omega) (lv_sub hl8 [0, 1, 2, 3, 4, 5] rfl)

def sg_allUnitsAt_4 (P : sg_Pic) (x : Int32) : Nat → Int32
  | 0 => 0
  | j4 + 1 => (if (P 41 j4) = x then ((sg_allUnitsAt_4 P x j4) + (P 42 j4)) else (sg_allUnitsAt_4 P x j4))

def sg_allUnitsAt (P : sg_Pic) (x : Int32) : Int32 := (sg_allUnitsAt_4 P x (sg_cn P 3))

set_option maxHeartbeats 4000000 in
set_option maxRecDepth 100000 in
/-- X1_allUnitsAt -/
theorem c_allUnitsAt (l : Launch) (D : va_G) (cI cZ cJ : ClassId) (lo sz : Nat) (a : Nat → Nat) (P : sg_Pic) (x : Int32) (hw : sg_W P) : Met l yX1_allUnitsAt wsX1_allUnitsAt ({ frames := 0, cells := 0, slots := 0, locals := 0 }) (Pre lo D cI cZ cJ [.ref (a 4), .int x] sz [(a 4, .inr (1, [.int (P 0 3), .ref (a 40), .ref (a 41), .ref (a 42), .ref (a 43), .ref (a 44)])), (a 40, .inl (cI, 200, .inl (P 40))), (a 41, .inl (cI, 200, .inl (P 41))), (a 42, .inl (cI, 200, .inl (P 42))), (a 43, .inl (cI, 200, .inl (P 43))), (a 44, .inl (cI, 200, .inl (P 44)))]) (vp_Si (fun r => r = sg_allUnitsAt P x)) 0 0 (fun _ => False) := by
  refine Met.ofW (cc := cX1_allUnitsAt) (maxL := 4) (ret := (some .int)) (by decide) rfl ?_
  intro p e s m args below meth c s₁ B hml hv
  obtain ⟨rfl, hsz, hP, hD0, hC⟩ := hv
  have hx := B.exec
  have hb := B.bytes
  have hr := B.returns
  have hts := atoms_spec (ws := wsX1_allUnitsAt) B.pre
  have hown : s.vm.findClass RX1 = some m.cls := findClass_of_methodNamed B.named
  have hlocks := B.notSynchronized
  subst hsz
  have hn1 : sg_cn P 1 ≤ 6 := hw.n1
  have hn2 : sg_cn P 2 ≤ 5 := hw.n2
  have hn3 : sg_cn P 3 ≤ 200 := hw.n3
  have hn4 : sg_cn P 4 ≤ 60 := hw.n4
  have hn5 : sg_cn P 5 ≤ 90 := hw.n5
  have hK := hC.K
  have hD := hD0
  have hS : va_S (fun q => lo ≤ q) s.heap s.heap [] := va_S.rf
  have hAlo : ∀ q, (fun q => lo ≤ q) q → lo ≤ q := fun _ h => h
  have hL : ∀ q ∈ ([] : List Loc), (fun _ : Addr => False) q.base := fun q h => by cases h
  have hP : va_P D vwCl [(a 4, .inr (1, [.int (P 0 3), .ref (a 40), .ref (a 41), .ref (a 42), .ref (a 43), .ref (a 44)])), (a 40, .inl (cI, 200, .inl (P 40))), (a 41, .inl (cI, 200, .inl (P 41))), (a 42, .inl (cI, 200, .inl (P 42))), (a 43, .inl (cI, 200, .inl (P 43))), (a 44, .inl (cI, 200, .inl (P 44)))] s.heap := hP
  have hl := lv_entry ([.ref (a 4), .int x]) (n := 4) (Nat.le_of_ble_eq_true rfl)
  rw [lg_entry_eq]
  generalize (lg_sl ([.ref (a 4), .int x]) ++ List.replicate (4 - (lg_sl ([.ref (a 4), .int x])).length) Slot.unset).toArray = ls at hl ⊢
  have hl : lv_has ls 4 [(0, .ref (a 4)), (1, .int x)] := hl
  have in1 : ∀ w ∈ u_ws RX1 TX1 6, w ∈ wsX1_allUnitsAt := by decide +kernel
  refine lv_iconst (v := 0) hx hb dX1_allUnitsAt_0 (by decide) ?_
  refine lv_istore_n (lv' := [(2, .int 0), (0, .ref (a 4)), (1, .int x)]) hx hb dX1_allUnitsAt_1 rfl hl (by decide) rfl (fun ls hl => ?_)
  refine lv_iconst (v := 0) hx hb dX1_allUnitsAt_2 (by decide) ?_
  refine lv_istore_n (lv' := [(3, .int 0), (2, .int 0), (0, .ref (a 4)), (1, .int x)]) hx hb dX1_allUnitsAt_3 rfl hl (by decide) rfl (fun ls hl => ?_)
  obtain ⟨j4, h0j4⟩ : ∃ j : Nat, j = 0 := ⟨_, rfl⟩
  obtain ⟨x4_2, hx4_2⟩ : ∃ z9 : Int32, z9 = sg_allUnitsAt_4 P x j4 := ⟨_, rfl⟩
  replace hl : lv_has ls 4 [(3, .int (nI j4)), (2, .int x4_2), (0, .ref (a 4)), (1, .int x)] := by rw [hx4_2, h0j4]; exact hl
  have hjj4 : j4 ≤ sg_cn P 3 := by omega
  clear h0j4
  obtain ⟨n4, hn4⟩ : ∃ n : Nat, sg_cn P 3 < j4 + n := ⟨sg_cn P 3 + 1, by omega⟩
  revert hl
  revert hn4
  revert hjj4
  revert hx4_2
  revert ls
  revert x4_2
  revert j4
  induction n4 with
  | zero =>
    intro j4 x4_2 ls hx4_2 hjj4 hn4 hl
    exact absurd hn4 (by omega)
  | succ n4 ih4 =>
    intro j4 x4_2 ls hx4_2 hjj4 hn4 hl
    refine lv_iload_n hx hb dX1_allUnitsAt_4 rfl (lv_at hl 0 rfl) ?_
    refine lv_aload_n hx hb dX1_allUnitsAt_5 rfl (lv_at hl 2 rfl) ?_
    refine va_get (D := D) (ci := 1) (v := .int (P 0 3)) (C := RX1) (T := TX1) (N := 6) hx hb hts in1 hown hK hP 0 rfl rfl 0 (by decide) (hts (.fieldLink RX1 27 "Granary$Lots" "count" "I") (by decide +kernel)) (fun _ h9 => h9) rfl dX1_allUnitsAt_6 ?_
    have hB4 : ((P 0 3) : Int32) = nI (sg_cn P 3) := (hw.e3)
    refine lv_icmp_ge (tgt := 37) hx hb dX1_allUnitsAt_9 (by decide) (fun c_1 => ?_) (fun c_1 => ?_)
    · have hE4 : j4 = sg_cn P 3 := sg_eq hB4 c_1 hjj4 (by omega)
      clear ih4 hn4
      subst hE4
      subst hx4_2
      refine lv_iload_n hx hb dX1_allUnitsAt_37 rfl (lv_at hl 1 rfl) ?_
      exact W.iret (v := (sg_allUnitsAt_4 P x (sg_cn P 3))) hx hb hr (fun t ht hW => ⟨(sg_allUnitsAt_4 P x (sg_cn P 3)), rfl, rfl, ht⟩) hL dX1_allUnitsAt_38
    · have hL4 : j4 < sg_cn P 3 := sg_lt hB4 c_1 (by omega)
      refine lv_aload_n hx hb dX1_allUnitsAt_12 rfl (lv_at hl 2 rfl) ?_
      refine va_get (D := D) (ci := 1) (v := .ref (a 41)) (C := RX1) (T := TX1) (N := 6) hx hb hts in1 hown hK hP 0 rfl rfl 2 (by decide) (hts (.fieldLink RX1 15 "Granary$Lots" "site" "[I") (by decide +kernel)) (fun _ h9 => h9) rfl dX1_allUnitsAt_13 ?_
      refine lv_iload_n hx hb dX1_allUnitsAt_16 rfl (lv_at hl 0 rfl) ?_
      refine sg_iald hx hb hK hP 2 0 rfl rfl (j := j4) rfl (by omega) (Nat.le_of_ble_eq_true rfl) dX1_allUnitsAt_17 ?_
      refine lv_toi (y := P 41 j4) rfl ?_
      refine lv_iload_n hx hb dX1_allUnitsAt_18 rfl (lv_at hl 3 rfl) ?_
      refine lv_icmp_ne (tgt := 31) hx hb dX1_allUnitsAt_19 (by decide) (fun c_2 => ?_) (fun c_2 => ?_)
      · refine lv_iinc (v := nI (j4 + 1)) (lv' := [(3, .int (nI (j4 + 1))), (2, .int x4_2), (0, .ref (a 4)), (1, .int x)]) hx hb dX1_allUnitsAt_31 hl (k := 0) rfl (nI_1 j4) (by decide) rfl (fun ls hl => ?_)
        refine lv_goto (tgt := 4) hx hb dX1_allUnitsAt_34 (by decide) ?_
        have hl8 := hl
        subst hx4_2
        exact ih4 (j4 + 1) (sg_allUnitsAt_4 P x j4) _ (show ((sg_allUnitsAt_4 P x j4) : Int32) = sg_allUnitsAt_4 P x (j4 + 1) from by rw [sg_allUnitsAt_4, if_neg c_2]) (by omega) (by omega) (lv_sub hl8 [0, 1, 2, 3] rfl)
      · refine lv_iload_n hx hb dX1_allUnitsAt_22 rfl (lv_at hl 1 rfl) ?_
        refine lv_aload_n hx hb dX1_allUnitsAt_23 rfl (lv_at hl 2 rfl) ?_
        refine va_get (D := D) (ci := 1) (v := .ref (a 42)) (C := RX1) (T := TX1) (N := 6) hx hb hts in1 hown hK hP 0 rfl rfl 3 (by decide) (hts (.fieldLink RX1 18 "Granary$Lots" "units" "[I") (by decide +kernel)) (fun _ h9 => h9) rfl dX1_allUnitsAt_24 ?_
        refine lv_iload_n hx hb dX1_allUnitsAt_27 rfl (lv_at hl 0 rfl) ?_
        refine sg_iald hx hb hK hP 3 0 rfl rfl (j := j4) rfl (by omega) (Nat.le_of_ble_eq_true rfl) dX1_allUnitsAt_28 ?_
        refine lv_toi (y := P 42 j4) rfl ?_
        refine lv_iadd hx hb dX1_allUnitsAt_29 ?_
        refine lv_istore_n (lv' := [(2, .int (x4_2 + (P 42 j4))), (3, .int (nI j4)), (0, .ref (a 4)), (1, .int x)]) hx hb dX1_allUnitsAt_30 rfl hl (by decide) rfl (fun ls hl => ?_)
        refine lv_iinc (v := nI (j4 + 1)) (lv' := [(3, .int (nI (j4 + 1))), (2, .int (x4_2 + (P 42 j4))), (0, .ref (a 4)), (1, .int x)]) hx hb dX1_allUnitsAt_31 hl (k := 1) rfl (nI_1 j4) (by decide) rfl (fun ls hl => ?_)
        refine lv_goto (tgt := 4) hx hb dX1_allUnitsAt_34 (by decide) ?_
        have hl8 := hl
        subst hx4_2
        exact ih4 (j4 + 1) ((sg_allUnitsAt_4 P x j4) + (P 42 j4)) _ (show ((sg_allUnitsAt_4 P x j4) + (P 42 j4) : Int32) = sg_allUnitsAt_4 P x (j4 + 1) from by rw [sg_allUnitsAt_4, if_pos c_2]) (by omega) (by omega) (lv_sub hl8 [0, 1, 2, 3] rfl)

def sg_openUnitsFrom_5 (P : sg_Pic) (x : Int32) (y : Int32) : Nat → Int32
  | 0 => 0
  | j5 + 1 => (if (P 57 j5) = 0 then (if (sg_isFrom P j5 x y) = 0 then (sg_openUnitsFrom_5 P x y j5) else ((sg_openUnitsFrom_5 P x y j5) + (P 52 j5))) else (sg_openUnitsFrom_5 P x y j5))

def sg_openUnitsFrom (P : sg_Pic) (x : Int32) (y : Int32) : Int32 := (sg_openUnitsFrom_5 P x y (sg_cn P 4))

set_option maxHeartbeats 4000000 in
set_option maxRecDepth 100000 in
/-- X2_openUnitsFrom -/
theorem c_openUnitsFrom (l : Launch) (D : va_G) (cI cZ cJ : ClassId) (lo sz : Nat) (a : Nat → Nat) (P : sg_Pic) (x : Int32) (y : Int32) (hw : sg_W P) : Met l yX2_openUnitsFrom wsX2_openUnitsFrom ({ frames := 1, cells := 0, slots := 0, locals := 23 }) (Pre lo D cI cZ cJ [.ref (a 5), .int x, .int y] sz [(a 5, .inr (2, [.int (P 0 4), .ref (a 50), .ref (a 51), .ref (a 52), .ref (a 53), .ref (a 54), .ref (a 55), .ref (a 56), .ref (a 57), .ref (a 58), .ref (a 59)])), (a 50, .inl (cI, 60, .inl (P 50))), (a 51, .inl (cI, 60, .inl (P 51))), (a 52, .inl (cI, 60, .inl (P 52))), (a 53, .inl (cI, 60, .inl (P 53))), (a 54, .inl (cI, 60, .inl (P 54))), (a 55, .inl (cI, 60, .inl (P 55))), (a 56, .inl (cI, 60, .inl (P 56))), (a 57, .inl (cI, 60, .inl (P 57))), (a 58, .inl (cI, 60, .inl (P 58))), (a 59, .inl (cI, 12000, .inl (P 59)))]) (vp_Si (fun r => r = sg_openUnitsFrom P x y)) 0 0 (fun _ => False) := by
  refine Met.ofW (cc := cX2_openUnitsFrom) (maxL := 5) (ret := (some .int)) (by decide) rfl ?_
  intro p e s m args below meth c s₁ B hml hv
  obtain ⟨rfl, hsz, hP, hD0, hC⟩ := hv
  have hx := B.exec
  have hb := B.bytes
  have hr := B.returns
  have hts := atoms_spec (ws := wsX2_openUnitsFrom) B.pre
  have hown : s.vm.findClass RX2 = some m.cls := findClass_of_methodNamed B.named
  have hlocks := B.notSynchronized
  subst hsz
  have hn1 : sg_cn P 1 ≤ 6 := hw.n1
  have hn2 : sg_cn P 2 ≤ 5 := hw.n2
  have hn3 : sg_cn P 3 ≤ 200 := hw.n3
  have hn4 : sg_cn P 4 ≤ 60 := hw.n4
  have hn5 : sg_cn P 5 ≤ 90 := hw.n5
  have hK := hC.K
  have hD := hD0
  have hS : va_S (fun q => lo ≤ q) s.heap s.heap [] := va_S.rf
  have hAlo : ∀ q, (fun q => lo ≤ q) q → lo ≤ q := fun _ h => h
  have hL : ∀ q ∈ ([] : List Loc), (fun _ : Addr => False) q.base := fun q h => by cases h
  have hP : va_P D vwCl [(a 5, .inr (2, [.int (P 0 4), .ref (a 50), .ref (a 51), .ref (a 52), .ref (a 53), .ref (a 54), .ref (a 55), .ref (a 56), .ref (a 57), .ref (a 58), .ref (a 59)])), (a 50, .inl (cI, 60, .inl (P 50))), (a 51, .inl (cI, 60, .inl (P 51))), (a 52, .inl (cI, 60, .inl (P 52))), (a 53, .inl (cI, 60, .inl (P 53))), (a 54, .inl (cI, 60, .inl (P 54))), (a 55, .inl (cI, 60, .inl (P 55))), (a 56, .inl (cI, 60, .inl (P 56))), (a 57, .inl (cI, 60, .inl (P 57))), (a 58, .inl (cI, 60, .inl (P 58))), (a 59, .inl (cI, 12000, .inl (P 59)))] s.heap := hP
  have hl := lv_entry ([.ref (a 5), .int x, .int y]) (n := 5) (Nat.le_of_ble_eq_true rfl)
  rw [lg_entry_eq]
  generalize (lg_sl ([.ref (a 5), .int x, .int y]) ++ List.replicate (5 - (lg_sl ([.ref (a 5), .int x, .int y])).length) Slot.unset).toArray = ls at hl ⊢
  have hl : lv_has ls 5 [(0, .ref (a 5)), (1, .int x), (2, .int y)] := hl
  have in2 : ∀ w ∈ u_ws RX2 TX2 11, w ∈ wsX2_openUnitsFrom := by decide +kernel
  refine lv_iconst (v := 0) hx hb dX2_openUnitsFrom_0 (by decide) ?_
  refine lv_istore_n (lv' := [(3, .int 0), (0, .ref (a 5)), (1, .int x), (2, .int y)]) hx hb dX2_openUnitsFrom_1 rfl hl (by decide) rfl (fun ls hl => ?_)
  refine lv_iconst (v := 0) hx hb dX2_openUnitsFrom_2 (by decide) ?_
  refine lv_istore (lv' := [(4, .int 0), (3, .int 0), (0, .ref (a 5)), (1, .int x), (2, .int y)]) hx hb dX2_openUnitsFrom_3 hl (by decide) rfl (fun ls hl => ?_)
  obtain ⟨j5, h0j5⟩ : ∃ j : Nat, j = 0 := ⟨_, rfl⟩
  obtain ⟨x5_3, hx5_3⟩ : ∃ z9 : Int32, z9 = sg_openUnitsFrom_5 P x y j5 := ⟨_, rfl⟩
  replace hl : lv_has ls 5 [(4, .int (nI j5)), (3, .int x5_3), (0, .ref (a 5)), (1, .int x), (2, .int y)] := by rw [hx5_3, h0j5]; exact hl
  have hjj5 : j5 ≤ sg_cn P 4 := by omega
  clear h0j5
  obtain ⟨n5, hn5⟩ : ∃ n : Nat, sg_cn P 4 < j5 + n := ⟨sg_cn P 4 + 1, by omega⟩
  revert hl
  revert hn5
  revert hjj5
  revert hx5_3
  revert ls
  revert x5_3
  revert j5
  induction n5 with
  | zero =>
    intro j5 x5_3 ls hx5_3 hjj5 hn5 hl
    exact absurd hn5 (by omega)
  | succ n5 ih5 =>
    intro j5 x5_3 ls hx5_3 hjj5 hn5 hl
    refine lv_iload hx hb dX2_openUnitsFrom_5 (lv_at hl 0 rfl) ?_
    refine lv_aload_n hx hb dX2_openUnitsFrom_7 rfl (lv_at hl 2 rfl) ?_
    refine va_get (D := D) (ci := 2) (v := .int (P 0 4)) (C := RX2) (T := TX2) (N := 11) hx hb hts in2 hown hK hP 0 rfl rfl 0 (by decide) (hts (.fieldLink RX2 42 "Granary$Orders" "count" "I") (by decide +kernel)) (fun _ h9 => h9) rfl dX2_openUnitsFrom_8 ?_
    have hB5 : ((P 0 4) : Int32) = nI (sg_cn P 4) := (hw.e4)
    refine lv_icmp_ge (tgt := 51) hx hb dX2_openUnitsFrom_11 (by decide) (fun c_1 => ?_) (fun c_1 => ?_)
    · have hE5 : j5 = sg_cn P 4 := sg_eq hB5 c_1 hjj5 (by omega)
      clear ih5 hn5
      subst hE5
      subst hx5_3
      refine lv_iload_n hx hb dX2_openUnitsFrom_51 rfl (lv_at hl 1 rfl) ?_
      exact W.iret (v := (sg_openUnitsFrom_5 P x y (sg_cn P 4))) hx hb hr (fun t ht hW => ⟨(sg_openUnitsFrom_5 P x y (sg_cn P 4)), rfl, rfl, ht⟩) hL dX2_openUnitsFrom_52
    · have hL5 : j5 < sg_cn P 4 := sg_lt hB5 c_1 (by omega)
      refine lv_aload_n hx hb dX2_openUnitsFrom_14 rfl (lv_at hl 2 rfl) ?_
      refine va_get (D := D) (ci := 2) (v := .ref (a 57)) (C := RX2) (T := TX2) (N := 11) hx hb hts in2 hown hK hP 0 rfl rfl 8 (by decide) (hts (.fieldLink RX2 33 "Granary$Orders" "state" "[I") (by decide +kernel)) (fun _ h9 => h9) rfl dX2_openUnitsFrom_15 ?_
      refine lv_iload hx hb dX2_openUnitsFrom_18 (lv_at hl 0 rfl) ?_
      refine sg_iald hx hb hK hP 8 0 rfl rfl (j := j5) rfl (by omega) (Nat.le_of_ble_eq_true rfl) dX2_openUnitsFrom_20 ?_
      refine lv_toi (y := P 57 j5) rfl ?_
      refine lv_if_ne (tgt := 45) hx hb dX2_openUnitsFrom_21 (by decide) (fun c_2 => ?_) (fun c_2 => ?_)
      · refine lv_iinc (v := nI (j5 + 1)) (lv' := [(4, .int (nI (j5 + 1))), (3, .int x5_3), (0, .ref (a 5)), (1, .int x), (2, .int y)]) hx hb dX2_openUnitsFrom_45 hl (k := 0) rfl (nI_1 j5) (by decide) rfl (fun ls hl => ?_)
        refine lv_goto (tgt := 5) hx hb dX2_openUnitsFrom_48 (by decide) ?_
        have hl8 := hl
        subst hx5_3
        exact ih5 (j5 + 1) (sg_openUnitsFrom_5 P x y j5) _ (show ((sg_openUnitsFrom_5 P x y j5) : Int32) = sg_openUnitsFrom_5 P x y (j5 + 1) from by rw [sg_openUnitsFrom_5, if_neg c_2]) (by omega) (by omega) (lv_sub hl8 [0, 1, 2, 3, 4] rfl)
      · refine lv_aload_n hx hb dX2_openUnitsFrom_24 rfl (lv_at hl 2 rfl) ?_
        refine lv_iload hx hb dX2_openUnitsFrom_25 (lv_at hl 0 rfl) ?_
        refine lv_iload_n hx hb dX2_openUnitsFrom_27 rfl (lv_at hl 3 rfl) ?_
        refine lv_iload_n hx hb dX2_openUnitsFrom_28 rfl (lv_at hl 4 rfl) ?_
        have hPc := hP.sub (ws' := [(a 5, .inr (2, [.int (P 0 4), .ref (a 50), .ref (a 51), .ref (a 52), .ref (a 53), .ref (a 54), .ref (a 55), .ref (a 56), .ref (a 57), .ref (a 58), .ref (a 59)])), (a 50, .inl (cI, 60, .inl (P 50))), (a 51, .inl (cI, 60, .inl (P 51)))]) [0, 1, 2] rfl
        have hDc := hD.sub (ws' := [(a 5, .inr (2, [.int (P 0 4), .ref (a 50), .ref (a 51), .ref (a 52), .ref (a 53), .ref (a 54), .ref (a 55), .ref (a 56), .ref (a 57), .ref (a 58), .ref (a 59)])), (a 50, .inl (cI, 60, .inl (P 50))), (a 51, .inl (cI, 60, .inl (P 51)))]) [0, 1, 2] (by decide) rfl
        refine vp_callSi (W.runV (As := [.int (nI j5), .int x, .int y]) (rest := []) ⟨hx, hb, hml, hown, hts⟩ (c_isFrom l D cI cZ cJ lo s.heap.size a P j5 x y (by omega)) (cwV 3 hts gX2_openUnitsFrom_X2_isFrom rfl rfl rfl (by decide +kernel) ⟨(Nat.le_of_ble_eq_true rfl), (Nat.le_of_ble_eq_true rfl)⟩) ⟨Pre.blind, va_recv hK hP (ci := 2) (q0 := 0) rfl rfl, Pre.mk hPc (hDc.weaken (fun _ _ _ h => hAlo _ h)) hC hS hAlo⟩ rfl rfl hl.1 rfl (lv_room (Nat.le_of_ble_eq_true rfl)) dX2_openUnitsFrom_29 ⟨(Nat.le_of_ble_eq_true rfl), (Nat.le_of_ble_eq_true rfl)⟩) (fun r_3 e_4 => ?_)
        clear hPc hDc
        have e_4 : sg_isFrom P j5 x y = r_3 := Eq.symm e_4
        subst e_4
        refine lv_if_eq (tgt := 45) hx hb dX2_openUnitsFrom_32 (by decide) (fun c_5 => ?_) (fun c_5 => ?_)
        · refine lv_iinc (v := nI (j5 + 1)) (lv' := [(4, .int (nI (j5 + 1))), (3, .int x5_3), (0, .ref (a 5)), (1, .int x), (2, .int y)]) hx hb dX2_openUnitsFrom_45 hl (k := 0) rfl (nI_1 j5) (by decide) rfl (fun ls hl => ?_)
          refine lv_goto (tgt := 5) hx hb dX2_openUnitsFrom_48 (by decide) ?_
          have hl8 := hl
          subst hx5_3
          exact ih5 (j5 + 1) (sg_openUnitsFrom_5 P x y j5) _ (show ((sg_openUnitsFrom_5 P x y j5) : Int32) = sg_openUnitsFrom_5 P x y (j5 + 1) from by rw [sg_openUnitsFrom_5, if_pos c_2, if_pos c_5]) (by omega) (by omega) (lv_sub hl8 [0, 1, 2, 3, 4] rfl)
        · refine lv_iload_n hx hb dX2_openUnitsFrom_35 rfl (lv_at hl 1 rfl) ?_
          refine lv_aload_n hx hb dX2_openUnitsFrom_36 rfl (lv_at hl 2 rfl) ?_
          refine va_get (D := D) (ci := 2) (v := .ref (a 52)) (C := RX2) (T := TX2) (N := 11) hx hb hts in2 hown hK hP 0 rfl rfl 3 (by decide) (hts (.fieldLink RX2 18 "Granary$Orders" "units" "[I") (by decide +kernel)) (fun _ h9 => h9) rfl dX2_openUnitsFrom_37 ?_
          refine lv_iload hx hb dX2_openUnitsFrom_40 (lv_at hl 0 rfl) ?_
          refine sg_iald hx hb hK hP 3 0 rfl rfl (j := j5) rfl (by omega) (Nat.le_of_ble_eq_true rfl) dX2_openUnitsFrom_42 ?_
          refine lv_toi (y := P 52 j5) rfl ?_
          refine lv_iadd hx hb dX2_openUnitsFrom_43 ?_
          refine lv_istore_n (lv' := [(3, .int (x5_3 + (P 52 j5))), (4, .int (nI j5)), (0, .ref (a 5)), (1, .int x), (2, .int y)]) hx hb dX2_openUnitsFrom_44 rfl hl (by decide) rfl (fun ls hl => ?_)
          refine lv_iinc (v := nI (j5 + 1)) (lv' := [(4, .int (nI (j5 + 1))), (3, .int (x5_3 + (P 52 j5))), (0, .ref (a 5)), (1, .int x), (2, .int y)]) hx hb dX2_openUnitsFrom_45 hl (k := 1) rfl (nI_1 j5) (by decide) rfl (fun ls hl => ?_)
          refine lv_goto (tgt := 5) hx hb dX2_openUnitsFrom_48 (by decide) ?_
          have hl8 := hl
          subst hx5_3
          exact ih5 (j5 + 1) ((sg_openUnitsFrom_5 P x y j5) + (P 52 j5)) _ (show ((sg_openUnitsFrom_5 P x y j5) + (P 52 j5) : Int32) = sg_openUnitsFrom_5 P x y (j5 + 1) from by rw [sg_openUnitsFrom_5, if_pos c_2, if_neg c_5]) (by omega) (by omega) (lv_sub hl8 [0, 1, 2, 3, 4] rfl)

def sg_useWithin_6 (P : sg_Pic) (x : Int32) (y : Int32) (z : Int32) (v : Int32) : Nat → Int32
  | 0 => 0
  | j6 + 1 => (if (P 57 j6) = 2 then (sg_useWithin_6 P x y z v j6) else (if (sg_isFrom P j6 x y) = 0 then (sg_useWithin_6 P x y z v j6) else (if (P 54 j6) < z then (sg_useWithin_6 P x y z v j6) else (if v < (P 54 j6) then (sg_useWithin_6 P x y z v j6) else ((sg_useWithin_6 P x y z v j6) + (P 52 j6))))))

def sg_useWithin (P : sg_Pic) (x : Int32) (y : Int32) (z : Int32) (v : Int32) : Int32 := (sg_useWithin_6 P x y z v (sg_cn P 4))

set_option maxHeartbeats 4000000 in
set_option maxRecDepth 100000 in
/-- X2_useWithin -/
theorem c_useWithin (l : Launch) (D : va_G) (cI cZ cJ : ClassId) (lo sz : Nat) (a : Nat → Nat) (P : sg_Pic) (x : Int32) (y : Int32) (z : Int32) (v : Int32) (hw : sg_W P) : Met l yX2_useWithin wsX2_useWithin ({ frames := 1, cells := 0, slots := 0, locals := 23 }) (Pre lo D cI cZ cJ [.ref (a 5), .int x, .int y, .int z, .int v] sz [(a 5, .inr (2, [.int (P 0 4), .ref (a 50), .ref (a 51), .ref (a 52), .ref (a 53), .ref (a 54), .ref (a 55), .ref (a 56), .ref (a 57), .ref (a 58), .ref (a 59)])), (a 50, .inl (cI, 60, .inl (P 50))), (a 51, .inl (cI, 60, .inl (P 51))), (a 52, .inl (cI, 60, .inl (P 52))), (a 53, .inl (cI, 60, .inl (P 53))), (a 54, .inl (cI, 60, .inl (P 54))), (a 55, .inl (cI, 60, .inl (P 55))), (a 56, .inl (cI, 60, .inl (P 56))), (a 57, .inl (cI, 60, .inl (P 57))), (a 58, .inl (cI, 60, .inl (P 58))), (a 59, .inl (cI, 12000, .inl (P 59)))]) (vp_Si (fun r => r = sg_useWithin P x y z v)) 0 0 (fun _ => False) := by
  refine Met.ofW (cc := cX2_useWithin) (maxL := 7) (ret := (some .int)) (by decide) rfl ?_
  intro p e s m args below meth c s₁ B hml hv
  obtain ⟨rfl, hsz, hP, hD0, hC⟩ := hv
  have hx := B.exec
  have hb := B.bytes
  have hr := B.returns
  have hts := atoms_spec (ws := wsX2_useWithin) B.pre
  have hown : s.vm.findClass RX2 = some m.cls := findClass_of_methodNamed B.named
  have hlocks := B.notSynchronized
  subst hsz
  have hn1 : sg_cn P 1 ≤ 6 := hw.n1
  have hn2 : sg_cn P 2 ≤ 5 := hw.n2
  have hn3 : sg_cn P 3 ≤ 200 := hw.n3
  have hn4 : sg_cn P 4 ≤ 60 := hw.n4
  have hn5 : sg_cn P 5 ≤ 90 := hw.n5
  have hK := hC.K
  have hD := hD0
  have hS : va_S (fun q => lo ≤ q) s.heap s.heap [] := va_S.rf
  have hAlo : ∀ q, (fun q => lo ≤ q) q → lo ≤ q := fun _ h => h
  have hL : ∀ q ∈ ([] : List Loc), (fun _ : Addr => False) q.base := fun q h => by cases h
  have hP : va_P D vwCl [(a 5, .inr (2, [.int (P 0 4), .ref (a 50), .ref (a 51), .ref (a 52), .ref (a 53), .ref (a 54), .ref (a 55), .ref (a 56), .ref (a 57), .ref (a 58), .ref (a 59)])), (a 50, .inl (cI, 60, .inl (P 50))), (a 51, .inl (cI, 60, .inl (P 51))), (a 52, .inl (cI, 60, .inl (P 52))), (a 53, .inl (cI, 60, .inl (P 53))), (a 54, .inl (cI, 60, .inl (P 54))), (a 55, .inl (cI, 60, .inl (P 55))), (a 56, .inl (cI, 60, .inl (P 56))), (a 57, .inl (cI, 60, .inl (P 57))), (a 58, .inl (cI, 60, .inl (P 58))), (a 59, .inl (cI, 12000, .inl (P 59)))] s.heap := hP
  have hl := lv_entry ([.ref (a 5), .int x, .int y, .int z, .int v]) (n := 7) (Nat.le_of_ble_eq_true rfl)
  rw [lg_entry_eq]
  generalize (lg_sl ([.ref (a 5), .int x, .int y, .int z, .int v]) ++ List.replicate (7 - (lg_sl ([.ref (a 5), .int x, .int y, .int z, .int v])).length) Slot.unset).toArray = ls at hl ⊢
  have hl : lv_has ls 7 [(0, .ref (a 5)), (1, .int x), (2, .int y), (3, .int z), (4, .int v)] := hl
  have in2 : ∀ w ∈ u_ws RX2 TX2 11, w ∈ wsX2_useWithin := by decide +kernel
  refine lv_iconst (v := 0) hx hb dX2_useWithin_0 (by decide) ?_
  refine lv_istore (lv' := [(5, .int 0), (0, .ref (a 5)), (1, .int x), (2, .int y), (3, .int z), (4, .int v)]) hx hb dX2_useWithin_1 hl (by decide) rfl (fun ls hl => ?_)
  refine lv_iconst (v := 0) hx hb dX2_useWithin_3 (by decide) ?_
  refine lv_istore (lv' := [(6, .int 0), (5, .int 0), (0, .ref (a 5)), (1, .int x), (2, .int y), (3, .int z), (4, .int v)]) hx hb dX2_useWithin_4 hl (by decide) rfl (fun ls hl => ?_)
  obtain ⟨j6, h0j6⟩ : ∃ j : Nat, j = 0 := ⟨_, rfl⟩
  obtain ⟨x6_5, hx6_5⟩ : ∃ z9 : Int32, z9 = sg_useWithin_6 P x y z v j6 := ⟨_, rfl⟩
  replace hl : lv_has ls 7 [(6, .int (nI j6)), (5, .int x6_5), (0, .ref (a 5)), (1, .int x), (2, .int y), (3, .int z), (4, .int v)] := by rw [hx6_5, h0j6]; exact hl
  have hjj6 : j6 ≤ sg_cn P 4 := by omega
  clear h0j6
  obtain ⟨n6, hn6⟩ : ∃ n : Nat, sg_cn P 4 < j6 + n := ⟨sg_cn P 4 + 1, by omega⟩
  revert hl
  revert hn6
  revert hjj6
  revert hx6_5
  revert ls
  revert x6_5
  revert j6
  induction n6 with
  | zero =>
    intro j6 x6_5 ls hx6_5 hjj6 hn6 hl
    exact absurd hn6 (by omega)
  | succ n6 ih6 =>
    intro j6 x6_5 ls hx6_5 hjj6 hn6 hl
    refine lv_iload hx hb dX2_useWithin_6 (lv_at hl 0 rfl) ?_
    refine lv_aload_n hx hb dX2_useWithin_8 rfl (lv_at hl 2 rfl) ?_
    refine va_get (D := D) (ci := 2) (v := .int (P 0 4)) (C := RX2) (T := TX2) (N := 11) hx hb hts in2 hown hK hP 0 rfl rfl 0 (by decide) (hts (.fieldLink RX2 42 "Granary$Orders" "count" "I") (by decide +kernel)) (fun _ h9 => h9) rfl dX2_useWithin_9 ?_
    have hB6 : ((P 0 4) : Int32) = nI (sg_cn P 4) := (hw.e4)
    refine lv_icmp_ge (tgt := 78) hx hb dX2_useWithin_12 (by decide) (fun c_1 => ?_) (fun c_1 => ?_)
    · have hE6 : j6 = sg_cn P 4 := sg_eq hB6 c_1 hjj6 (by omega)
      clear ih6 hn6
      subst hE6
      subst hx6_5
      refine lv_iload hx hb dX2_useWithin_78 (lv_at hl 1 rfl) ?_
      exact W.iret (v := (sg_useWithin_6 P x y z v (sg_cn P 4))) hx hb hr (fun t ht hW => ⟨(sg_useWithin_6 P x y z v (sg_cn P 4)), rfl, rfl, ht⟩) hL dX2_useWithin_80
    · have hL6 : j6 < sg_cn P 4 := sg_lt hB6 c_1 (by omega)
      refine lv_aload_n hx hb dX2_useWithin_15 rfl (lv_at hl 2 rfl) ?_
      refine va_get (D := D) (ci := 2) (v := .ref (a 57)) (C := RX2) (T := TX2) (N := 11) hx hb hts in2 hown hK hP 0 rfl rfl 8 (by decide) (hts (.fieldLink RX2 33 "Granary$Orders" "state" "[I") (by decide +kernel)) (fun _ h9 => h9) rfl dX2_useWithin_16 ?_
      refine lv_iload hx hb dX2_useWithin_19 (lv_at hl 0 rfl) ?_
      refine sg_iald hx hb hK hP 8 0 rfl rfl (j := j6) rfl (by omega) (Nat.le_of_ble_eq_true rfl) dX2_useWithin_21 ?_
      refine lv_toi (y := P 57 j6) rfl ?_
      refine lv_iconst (v := 2) hx hb dX2_useWithin_22 (by decide) ?_
      refine lv_icmp_eq (tgt := 72) hx hb dX2_useWithin_23 (by decide) (fun c_2 => ?_) (fun c_2 => ?_)
      · refine lv_iinc (v := nI (j6 + 1)) (lv' := [(6, .int (nI (j6 + 1))), (5, .int x6_5), (0, .ref (a 5)), (1, .int x), (2, .int y), (3, .int z), (4, .int v)]) hx hb dX2_useWithin_72 hl (k := 0) rfl (nI_1 j6) (by decide) rfl (fun ls hl => ?_)
        refine lv_goto (tgt := 6) hx hb dX2_useWithin_75 (by decide) ?_
        have hl8 := hl
        subst hx6_5
        exact ih6 (j6 + 1) (sg_useWithin_6 P x y z v j6) _ (show ((sg_useWithin_6 P x y z v j6) : Int32) = sg_useWithin_6 P x y z v (j6 + 1) from by rw [sg_useWithin_6, if_pos c_2]) (by omega) (by omega) (lv_sub hl8 [0, 1, 2, 3, 4, 5, 6] rfl)
      · refine lv_aload_n hx hb dX2_useWithin_26 rfl (lv_at hl 2 rfl) ?_
        refine lv_iload hx hb dX2_useWithin_27 (lv_at hl 0 rfl) ?_
        refine lv_iload_n hx hb dX2_useWithin_29 rfl (lv_at hl 3 rfl) ?_
        refine lv_iload_n hx hb dX2_useWithin_30 rfl (lv_at hl 4 rfl) ?_
        have hPc := hP.sub (ws' := [(a 5, .inr (2, [.int (P 0 4), .ref (a 50), .ref (a 51), .ref (a 52), .ref (a 53), .ref (a 54), .ref (a 55), .ref (a 56), .ref (a 57), .ref (a 58), .ref (a 59)])), (a 50, .inl (cI, 60, .inl (P 50))), (a 51, .inl (cI, 60, .inl (P 51)))]) [0, 1, 2] rfl
        have hDc := hD.sub (ws' := [(a 5, .inr (2, [.int (P 0 4), .ref (a 50), .ref (a 51), .ref (a 52), .ref (a 53), .ref (a 54), .ref (a 55), .ref (a 56), .ref (a 57), .ref (a 58), .ref (a 59)])), (a 50, .inl (cI, 60, .inl (P 50))), (a 51, .inl (cI, 60, .inl (P 51)))]) [0, 1, 2] (by decide) rfl
        refine vp_callSi (W.runV (As := [.int (nI j6), .int x, .int y]) (rest := []) ⟨hx, hb, hml, hown, hts⟩ (c_isFrom l D cI cZ cJ lo s.heap.size a P j6 x y (by omega)) (cwV 3 hts gX2_useWithin_X2_isFrom rfl rfl rfl (by decide +kernel) ⟨(Nat.le_of_ble_eq_true rfl), (Nat.le_of_ble_eq_true rfl)⟩) ⟨Pre.blind, va_recv hK hP (ci := 2) (q0 := 0) rfl rfl, Pre.mk hPc (hDc.weaken (fun _ _ _ h => hAlo _ h)) hC hS hAlo⟩ rfl rfl hl.1 rfl (lv_room (Nat.le_of_ble_eq_true rfl)) dX2_useWithin_31 ⟨(Nat.le_of_ble_eq_true rfl), (Nat.le_of_ble_eq_true rfl)⟩) (fun r_3 e_4 => ?_)
        clear hPc hDc
        have e_4 : sg_isFrom P j6 x y = r_3 := Eq.symm e_4
        subst e_4
        refine lv_if_eq (tgt := 72) hx hb dX2_useWithin_34 (by decide) (fun c_5 => ?_) (fun c_5 => ?_)
        · refine lv_iinc (v := nI (j6 + 1)) (lv' := [(6, .int (nI (j6 + 1))), (5, .int x6_5), (0, .ref (a 5)), (1, .int x), (2, .int y), (3, .int z), (4, .int v)]) hx hb dX2_useWithin_72 hl (k := 0) rfl (nI_1 j6) (by decide) rfl (fun ls hl => ?_)
          refine lv_goto (tgt := 6) hx hb dX2_useWithin_75 (by decide) ?_
          have hl8 := hl
          subst hx6_5
          exact ih6 (j6 + 1) (sg_useWithin_6 P x y z v j6) _ (show ((sg_useWithin_6 P x y z v j6) : Int32) = sg_useWithin_6 P x y z v (j6 + 1) from by rw [sg_useWithin_6, if_neg c_2, if_pos c_5]) (by omega) (by omega) (lv_sub hl8 [0, 1, 2, 3, 4, 5, 6] rfl)
        · refine lv_aload_n hx hb dX2_useWithin_37 rfl (lv_at hl 2 rfl) ?_
          refine va_get (D := D) (ci := 2) (v := .ref (a 54)) (C := RX2) (T := TX2) (N := 11) hx hb hts in2 hown hK hP 0 rfl rfl 5 (by decide) (hts (.fieldLink RX2 24 "Granary$Orders" "due" "[I") (by decide +kernel)) (fun _ h9 => h9) rfl dX2_useWithin_38 ?_
          refine lv_iload hx hb dX2_useWithin_41 (lv_at hl 0 rfl) ?_
          refine sg_iald hx hb hK hP 5 0 rfl rfl (j := j6) rfl (by omega) (Nat.le_of_ble_eq_true rfl) dX2_useWithin_43 ?_
          refine lv_toi (y := P 54 j6) rfl ?_
          refine lv_iload_n hx hb dX2_useWithin_44 rfl (lv_at hl 5 rfl) ?_
          refine lv_icmp_lt (tgt := 72) hx hb dX2_useWithin_45 (by decide) (fun c_6 => ?_) (fun c_6 => ?_)
          · refine lv_iinc (v := nI (j6 + 1)) (lv' := [(6, .int (nI (j6 + 1))), (5, .int x6_5), (0, .ref (a 5)), (1, .int x), (2, .int y), (3, .int z), (4, .int v)]) hx hb dX2_useWithin_72 hl (k := 0) rfl (nI_1 j6) (by decide) rfl (fun ls hl => ?_)
            refine lv_goto (tgt := 6) hx hb dX2_useWithin_75 (by decide) ?_
            have hl8 := hl
            subst hx6_5
            exact ih6 (j6 + 1) (sg_useWithin_6 P x y z v j6) _ (show ((sg_useWithin_6 P x y z v j6) : Int32) = sg_useWithin_6 P x y z v (j6 + 1) from by rw [sg_useWithin_6, if_neg c_2, if_neg c_5, if_pos c_6]) (by omega) (by omega) (lv_sub hl8 [0, 1, 2, 3, 4, 5, 6] rfl)
          · refine lv_aload_n hx hb dX2_useWithin_48 rfl (lv_at hl 2 rfl) ?_
            refine va_get (D := D) (ci := 2) (v := .ref (a 54)) (C := RX2) (T := TX2) (N := 11) hx hb hts in2 hown hK hP 0 rfl rfl 5 (by decide) (hts (.fieldLink RX2 24 "Granary$Orders" "due" "[I") (by decide +kernel)) (fun _ h9 => h9) rfl dX2_useWithin_49 ?_
            refine lv_iload hx hb dX2_useWithin_52 (lv_at hl 0 rfl) ?_
            refine sg_iald hx hb hK hP 5 0 rfl rfl (j := j6) rfl (by omega) (Nat.le_of_ble_eq_true rfl) dX2_useWithin_54 ?_
            refine lv_toi (y := P 54 j6) rfl ?_
            refine lv_iload hx hb dX2_useWithin_55 (lv_at hl 6 rfl) ?_
            refine lv_icmp_gt (tgt := 72) hx hb dX2_useWithin_57 (by decide) (fun c_7 => ?_) (fun c_7 => ?_)
            · refine lv_iinc (v := nI (j6 + 1)) (lv' := [(6, .int (nI (j6 + 1))), (5, .int x6_5), (0, .ref (a 5)), (1, .int x), (2, .int y), (3, .int z), (4, .int v)]) hx hb dX2_useWithin_72 hl (k := 0) rfl (nI_1 j6) (by decide) rfl (fun ls hl => ?_)
              refine lv_goto (tgt := 6) hx hb dX2_useWithin_75 (by decide) ?_
              have hl8 := hl
              subst hx6_5
              exact ih6 (j6 + 1) (sg_useWithin_6 P x y z v j6) _ (show ((sg_useWithin_6 P x y z v j6) : Int32) = sg_useWithin_6 P x y z v (j6 + 1) from by rw [sg_useWithin_6, if_neg c_2, if_neg c_5, if_neg c_6, if_pos c_7]) (by omega) (by omega) (lv_sub hl8 [0, 1, 2, 3, 4, 5, 6] rfl)
            · refine lv_iload hx hb dX2_useWithin_60 (lv_at hl 1 rfl) ?_
              refine lv_aload_n hx hb dX2_useWithin_62 rfl (lv_at hl 2 rfl) ?_
              refine va_get (D := D) (ci := 2) (v := .ref (a 52)) (C := RX2) (T := TX2) (N := 11) hx hb hts in2 hown hK hP 0 rfl rfl 3 (by decide) (hts (.fieldLink RX2 18 "Granary$Orders" "units" "[I") (by decide +kernel)) (fun _ h9 => h9) rfl dX2_useWithin_63 ?_
              refine lv_iload hx hb dX2_useWithin_66 (lv_at hl 0 rfl) ?_
              refine sg_iald hx hb hK hP 3 0 rfl rfl (j := j6) rfl (by omega) (Nat.le_of_ble_eq_true rfl) dX2_useWithin_68 ?_
              refine lv_toi (y := P 52 j6) rfl ?_
              refine lv_iadd hx hb dX2_useWithin_69 ?_
              refine lv_istore (lv' := [(5, .int (x6_5 + (P 52 j6))), (6, .int (nI j6)), (0, .ref (a 5)), (1, .int x), (2, .int y), (3, .int z), (4, .int v)]) hx hb dX2_useWithin_70 hl (by decide) rfl (fun ls hl => ?_)
              refine lv_iinc (v := nI (j6 + 1)) (lv' := [(6, .int (nI (j6 + 1))), (5, .int (x6_5 + (P 52 j6))), (0, .ref (a 5)), (1, .int x), (2, .int y), (3, .int z), (4, .int v)]) hx hb dX2_useWithin_72 hl (k := 1) rfl (nI_1 j6) (by decide) rfl (fun ls hl => ?_)
              refine lv_goto (tgt := 6) hx hb dX2_useWithin_75 (by decide) ?_
              have hl8 := hl
              subst hx6_5
              exact ih6 (j6 + 1) ((sg_useWithin_6 P x y z v j6) + (P 52 j6)) _ (show ((sg_useWithin_6 P x y z v j6) + (P 52 j6) : Int32) = sg_useWithin_6 P x y z v (j6 + 1) from by rw [sg_useWithin_6, if_neg c_2, if_neg c_5, if_neg c_6, if_neg c_7]) (by omega) (by omega) (lv_sub hl8 [0, 1, 2, 3, 4, 5, 6] rfl)

def sg_allReserved_4 (P : sg_Pic) : Nat → Int32
  | 0 => 0
  | j4 + 1 => ((sg_allReserved_4 P j4) + (P 53 j4))

def sg_allReserved (P : sg_Pic) : Int32 := (sg_allReserved_4 P (sg_cn P 4))

set_option maxHeartbeats 4000000 in
set_option maxRecDepth 100000 in
/-- X2_allReserved -/
theorem c_allReserved (l : Launch) (D : va_G) (cI cZ cJ : ClassId) (lo sz : Nat) (a : Nat → Nat) (P : sg_Pic) (hw : sg_W P) : Met l yX2_allReserved wsX2_allReserved ({ frames := 0, cells := 0, slots := 0, locals := 0 }) (Pre lo D cI cZ cJ [.ref (a 5)] sz [(a 5, .inr (2, [.int (P 0 4), .ref (a 50), .ref (a 51), .ref (a 52), .ref (a 53), .ref (a 54), .ref (a 55), .ref (a 56), .ref (a 57), .ref (a 58), .ref (a 59)])), (a 50, .inl (cI, 60, .inl (P 50))), (a 51, .inl (cI, 60, .inl (P 51))), (a 52, .inl (cI, 60, .inl (P 52))), (a 53, .inl (cI, 60, .inl (P 53))), (a 54, .inl (cI, 60, .inl (P 54))), (a 55, .inl (cI, 60, .inl (P 55))), (a 56, .inl (cI, 60, .inl (P 56))), (a 57, .inl (cI, 60, .inl (P 57))), (a 58, .inl (cI, 60, .inl (P 58))), (a 59, .inl (cI, 12000, .inl (P 59)))]) (vp_Si (fun r => r = sg_allReserved P)) 0 0 (fun _ => False) := by
  refine Met.ofW (cc := cX2_allReserved) (maxL := 3) (ret := (some .int)) (by decide) rfl ?_
  intro p e s m args below meth c s₁ B hml hv
  obtain ⟨rfl, hsz, hP, hD0, hC⟩ := hv
  have hx := B.exec
  have hb := B.bytes
  have hr := B.returns
  have hts := atoms_spec (ws := wsX2_allReserved) B.pre
  have hown : s.vm.findClass RX2 = some m.cls := findClass_of_methodNamed B.named
  have hlocks := B.notSynchronized
  subst hsz
  have hn1 : sg_cn P 1 ≤ 6 := hw.n1
  have hn2 : sg_cn P 2 ≤ 5 := hw.n2
  have hn3 : sg_cn P 3 ≤ 200 := hw.n3
  have hn4 : sg_cn P 4 ≤ 60 := hw.n4
  have hn5 : sg_cn P 5 ≤ 90 := hw.n5
  have hK := hC.K
  have hD := hD0
  have hS : va_S (fun q => lo ≤ q) s.heap s.heap [] := va_S.rf
  have hAlo : ∀ q, (fun q => lo ≤ q) q → lo ≤ q := fun _ h => h
  have hL : ∀ q ∈ ([] : List Loc), (fun _ : Addr => False) q.base := fun q h => by cases h
  have hP : va_P D vwCl [(a 5, .inr (2, [.int (P 0 4), .ref (a 50), .ref (a 51), .ref (a 52), .ref (a 53), .ref (a 54), .ref (a 55), .ref (a 56), .ref (a 57), .ref (a 58), .ref (a 59)])), (a 50, .inl (cI, 60, .inl (P 50))), (a 51, .inl (cI, 60, .inl (P 51))), (a 52, .inl (cI, 60, .inl (P 52))), (a 53, .inl (cI, 60, .inl (P 53))), (a 54, .inl (cI, 60, .inl (P 54))), (a 55, .inl (cI, 60, .inl (P 55))), (a 56, .inl (cI, 60, .inl (P 56))), (a 57, .inl (cI, 60, .inl (P 57))), (a 58, .inl (cI, 60, .inl (P 58))), (a 59, .inl (cI, 12000, .inl (P 59)))] s.heap := hP
  have hl := lv_entry ([.ref (a 5)]) (n := 3) (Nat.le_of_ble_eq_true rfl)
  rw [lg_entry_eq]
  generalize (lg_sl ([.ref (a 5)]) ++ List.replicate (3 - (lg_sl ([.ref (a 5)])).length) Slot.unset).toArray = ls at hl ⊢
  have hl : lv_has ls 3 [(0, .ref (a 5))] := hl
  have in2 : ∀ w ∈ u_ws RX2 TX2 11, w ∈ wsX2_allReserved := by decide +kernel
  refine lv_iconst (v := 0) hx hb dX2_allReserved_0 (by decide) ?_
  refine lv_istore_n (lv' := [(1, .int 0), (0, .ref (a 5))]) hx hb dX2_allReserved_1 rfl hl (by decide) rfl (fun ls hl => ?_)
  refine lv_iconst (v := 0) hx hb dX2_allReserved_2 (by decide) ?_
  refine lv_istore_n (lv' := [(2, .int 0), (1, .int 0), (0, .ref (a 5))]) hx hb dX2_allReserved_3 rfl hl (by decide) rfl (fun ls hl => ?_)
  obtain ⟨j4, h0j4⟩ : ∃ j : Nat, j = 0 := ⟨_, rfl⟩
  obtain ⟨x4_1, hx4_1⟩ : ∃ z9 : Int32, z9 = sg_allReserved_4 P j4 := ⟨_, rfl⟩
  replace hl : lv_has ls 3 [(2, .int (nI j4)), (1, .int x4_1), (0, .ref (a 5))] := by rw [hx4_1, h0j4]; exact hl
  have hjj4 : j4 ≤ sg_cn P 4 := by omega
  clear h0j4
  obtain ⟨n4, hn4⟩ : ∃ n : Nat, sg_cn P 4 < j4 + n := ⟨sg_cn P 4 + 1, by omega⟩
  revert hl
  revert hn4
  revert hjj4
  revert hx4_1
  revert ls
  revert x4_1
  revert j4
  induction n4 with
  | zero =>
    intro j4 x4_1 ls hx4_1 hjj4 hn4 hl
    exact absurd hn4 (by omega)
  | succ n4 ih4 =>
    intro j4 x4_1 ls hx4_1 hjj4 hn4 hl
    refine lv_iload_n hx hb dX2_allReserved_4 rfl (lv_at hl 0 rfl) ?_
    refine lv_aload_n hx hb dX2_allReserved_5 rfl (lv_at hl 2 rfl) ?_
    refine va_get (D := D) (ci := 2) (v := .int (P 0 4)) (C := RX2) (T := TX2) (N := 11) hx hb hts in2 hown hK hP 0 rfl rfl 0 (by decide) (hts (.fieldLink RX2 42 "Granary$Orders" "count" "I") (by decide +kernel)) (fun _ h9 => h9) rfl dX2_allReserved_6 ?_
    have hB4 : ((P 0 4) : Int32) = nI (sg_cn P 4) := (hw.e4)
    refine lv_icmp_ge (tgt := 27) hx hb dX2_allReserved_9 (by decide) (fun c_1 => ?_) (fun c_1 => ?_)
    · have hE4 : j4 = sg_cn P 4 := sg_eq hB4 c_1 hjj4 (by omega)
      clear ih4 hn4
      subst hE4
      subst hx4_1
      refine lv_iload_n hx hb dX2_allReserved_27 rfl (lv_at hl 1 rfl) ?_
      exact W.iret (v := (sg_allReserved_4 P (sg_cn P 4))) hx hb hr (fun t ht hW => ⟨(sg_allReserved_4 P (sg_cn P 4)), rfl, rfl, ht⟩) hL dX2_allReserved_28
    · have hL4 : j4 < sg_cn P 4 := sg_lt hB4 c_1 (by omega)
      refine lv_iload_n hx hb dX2_allReserved_12 rfl (lv_at hl 1 rfl) ?_
      refine lv_aload_n hx hb dX2_allReserved_13 rfl (lv_at hl 2 rfl) ?_
      refine va_get (D := D) (ci := 2) (v := .ref (a 53)) (C := RX2) (T := TX2) (N := 11) hx hb hts in2 hown hK hP 0 rfl rfl 4 (by decide) (hts (.fieldLink RX2 21 "Granary$Orders" "reserved" "[I") (by decide +kernel)) (fun _ h9 => h9) rfl dX2_allReserved_14 ?_
      refine lv_iload_n hx hb dX2_allReserved_17 rfl (lv_at hl 0 rfl) ?_
      refine sg_iald hx hb hK hP 4 0 rfl rfl (j := j4) rfl (by omega) (Nat.le_of_ble_eq_true rfl) dX2_allReserved_18 ?_
      refine lv_toi (y := P 53 j4) rfl ?_
      refine lv_iadd hx hb dX2_allReserved_19 ?_
      refine lv_istore_n (lv' := [(1, .int (x4_1 + (P 53 j4))), (2, .int (nI j4)), (0, .ref (a 5))]) hx hb dX2_allReserved_20 rfl hl (by decide) rfl (fun ls hl => ?_)
      refine lv_iinc (v := nI (j4 + 1)) (lv' := [(2, .int (nI (j4 + 1))), (1, .int (x4_1 + (P 53 j4))), (0, .ref (a 5))]) hx hb dX2_allReserved_21 hl (k := 1) rfl (nI_1 j4) (by decide) rfl (fun ls hl => ?_)
      refine lv_goto (tgt := 4) hx hb dX2_allReserved_24 (by decide) ?_
      have hl8 := hl
      subst hx4_1
      exact ih4 (j4 + 1) ((sg_allReserved_4 P j4) + (P 53 j4)) _ rfl (by omega) (by omega) (lv_sub hl8 [0, 1, 2] rfl)

def sg_unitsTo_5 (P : sg_Pic) (x : Int32) (y : Int32) : Nat → Int32
  | 0 => 0
  | j5 + 1 => (if (P 65 j5) = 1 then (if (P 60 j5) = x then (if (P 61 j5) = y then ((sg_unitsTo_5 P x y j5) + (P 62 j5)) else (sg_unitsTo_5 P x y j5)) else (sg_unitsTo_5 P x y j5)) else (sg_unitsTo_5 P x y j5))

def sg_unitsTo (P : sg_Pic) (x : Int32) (y : Int32) : Int32 := (sg_unitsTo_5 P x y (sg_cn P 5))

set_option maxHeartbeats 4000000 in
set_option maxRecDepth 100000 in
/-- X7_unitsTo -/
theorem c_unitsTo (l : Launch) (D : va_G) (cI cZ cJ : ClassId) (lo sz : Nat) (a : Nat → Nat) (P : sg_Pic) (x : Int32) (y : Int32) (hw : sg_W P) : Met l yX7_unitsTo wsX7_unitsTo ({ frames := 0, cells := 0, slots := 0, locals := 0 }) (Pre lo D cI cZ cJ [.ref (a 6), .int x, .int y] sz [(a 6, .inr (7, [.int (P 0 5), .ref (a 60), .ref (a 61), .ref (a 62), .ref (a 63), .ref (a 64), .ref (a 65)])), (a 60, .inl (cI, 90, .inl (P 60))), (a 61, .inl (cI, 90, .inl (P 61))), (a 62, .inl (cI, 90, .inl (P 62))), (a 63, .inl (cI, 90, .inl (P 63))), (a 64, .inl (cI, 90, .inl (P 64))), (a 65, .inl (cI, 90, .inl (P 65)))]) (vp_Si (fun r => r = sg_unitsTo P x y)) 0 0 (fun _ => False) := by
  refine Met.ofW (cc := cX7_unitsTo) (maxL := 5) (ret := (some .int)) (by decide) rfl ?_
  intro p e s m args below meth c s₁ B hml hv
  obtain ⟨rfl, hsz, hP, hD0, hC⟩ := hv
  have hx := B.exec
  have hb := B.bytes
  have hr := B.returns
  have hts := atoms_spec (ws := wsX7_unitsTo) B.pre
  have hown : s.vm.findClass RX7 = some m.cls := findClass_of_methodNamed B.named
  have hlocks := B.notSynchronized
  subst hsz
  have hn1 : sg_cn P 1 ≤ 6 := hw.n1
  have hn2 : sg_cn P 2 ≤ 5 := hw.n2
  have hn3 : sg_cn P 3 ≤ 200 := hw.n3
  have hn4 : sg_cn P 4 ≤ 60 := hw.n4
  have hn5 : sg_cn P 5 ≤ 90 := hw.n5
  have hK := hC.K
  have hD := hD0
  have hS : va_S (fun q => lo ≤ q) s.heap s.heap [] := va_S.rf
  have hAlo : ∀ q, (fun q => lo ≤ q) q → lo ≤ q := fun _ h => h
  have hL : ∀ q ∈ ([] : List Loc), (fun _ : Addr => False) q.base := fun q h => by cases h
  have hP : va_P D vwCl [(a 6, .inr (7, [.int (P 0 5), .ref (a 60), .ref (a 61), .ref (a 62), .ref (a 63), .ref (a 64), .ref (a 65)])), (a 60, .inl (cI, 90, .inl (P 60))), (a 61, .inl (cI, 90, .inl (P 61))), (a 62, .inl (cI, 90, .inl (P 62))), (a 63, .inl (cI, 90, .inl (P 63))), (a 64, .inl (cI, 90, .inl (P 64))), (a 65, .inl (cI, 90, .inl (P 65)))] s.heap := hP
  have hl := lv_entry ([.ref (a 6), .int x, .int y]) (n := 5) (Nat.le_of_ble_eq_true rfl)
  rw [lg_entry_eq]
  generalize (lg_sl ([.ref (a 6), .int x, .int y]) ++ List.replicate (5 - (lg_sl ([.ref (a 6), .int x, .int y])).length) Slot.unset).toArray = ls at hl ⊢
  have hl : lv_has ls 5 [(0, .ref (a 6)), (1, .int x), (2, .int y)] := hl
  have in7 : ∀ w ∈ u_ws RX7 TX7 7, w ∈ wsX7_unitsTo := by decide +kernel
  refine lv_iconst (v := 0) hx hb dX7_unitsTo_0 (by decide) ?_
  refine lv_istore_n (lv' := [(3, .int 0), (0, .ref (a 6)), (1, .int x), (2, .int y)]) hx hb dX7_unitsTo_1 rfl hl (by decide) rfl (fun ls hl => ?_)
  refine lv_iconst (v := 0) hx hb dX7_unitsTo_2 (by decide) ?_
  refine lv_istore (lv' := [(4, .int 0), (3, .int 0), (0, .ref (a 6)), (1, .int x), (2, .int y)]) hx hb dX7_unitsTo_3 hl (by decide) rfl (fun ls hl => ?_)
  obtain ⟨j5, h0j5⟩ : ∃ j : Nat, j = 0 := ⟨_, rfl⟩
  obtain ⟨x5_3, hx5_3⟩ : ∃ z9 : Int32, z9 = sg_unitsTo_5 P x y j5 := ⟨_, rfl⟩
  replace hl : lv_has ls 5 [(4, .int (nI j5)), (3, .int x5_3), (0, .ref (a 6)), (1, .int x), (2, .int y)] := by rw [hx5_3, h0j5]; exact hl
  have hjj5 : j5 ≤ sg_cn P 5 := by omega
  clear h0j5
  obtain ⟨n5, hn5⟩ : ∃ n : Nat, sg_cn P 5 < j5 + n := ⟨sg_cn P 5 + 1, by omega⟩
  revert hl
  revert hn5
  revert hjj5
  revert hx5_3
  revert ls
  revert x5_3
  revert j5
  induction n5 with
  | zero =>
    intro j5 x5_3 ls hx5_3 hjj5 hn5 hl
    exact absurd hn5 (by omega)
  | succ n5 ih5 =>
    intro j5 x5_3 ls hx5_3 hjj5 hn5 hl
    refine lv_iload hx hb dX7_unitsTo_5 (lv_at hl 0 rfl) ?_
    refine lv_aload_n hx hb dX7_unitsTo_7 rfl (lv_at hl 2 rfl) ?_
    refine va_get (D := D) (ci := 7) (v := .int (P 0 5)) (C := RX7) (T := TX7) (N := 7) hx hb hts in7 hown hK hP 0 rfl rfl 0 (by decide) (hts (.fieldLink RX7 30 "Granary$Transports" "count" "I") (by decide +kernel)) (fun _ h9 => h9) rfl dX7_unitsTo_8 ?_
    have hB5 : ((P 0 5) : Int32) = nI (sg_cn P 5) := (hw.e5)
    refine lv_icmp_ge (tgt := 63) hx hb dX7_unitsTo_11 (by decide) (fun c_1 => ?_) (fun c_1 => ?_)
    · have hE5 : j5 = sg_cn P 5 := sg_eq hB5 c_1 hjj5 (by omega)
      clear ih5 hn5
      subst hE5
      subst hx5_3
      refine lv_iload_n hx hb dX7_unitsTo_63 rfl (lv_at hl 1 rfl) ?_
      exact W.iret (v := (sg_unitsTo_5 P x y (sg_cn P 5))) hx hb hr (fun t ht hW => ⟨(sg_unitsTo_5 P x y (sg_cn P 5)), rfl, rfl, ht⟩) hL dX7_unitsTo_64
    · have hL5 : j5 < sg_cn P 5 := sg_lt hB5 c_1 (by omega)
      refine lv_aload_n hx hb dX7_unitsTo_14 rfl (lv_at hl 2 rfl) ?_
      refine va_get (D := D) (ci := 7) (v := .ref (a 65)) (C := RX7) (T := TX7) (N := 7) hx hb hts in7 hown hK hP 0 rfl rfl 6 (by decide) (hts (.fieldLink RX7 27 "Granary$Transports" "moving" "[I") (by decide +kernel)) (fun _ h9 => h9) rfl dX7_unitsTo_15 ?_
      refine lv_iload hx hb dX7_unitsTo_18 (lv_at hl 0 rfl) ?_
      refine sg_iald hx hb hK hP 6 0 rfl rfl (j := j5) rfl (by omega) (Nat.le_of_ble_eq_true rfl) dX7_unitsTo_20 ?_
      refine lv_toi (y := P 65 j5) rfl ?_
      refine lv_iconst (v := 1) hx hb dX7_unitsTo_21 (by decide) ?_
      refine lv_icmp_ne (tgt := 57) hx hb dX7_unitsTo_22 (by decide) (fun c_2 => ?_) (fun c_2 => ?_)
      · refine lv_iinc (v := nI (j5 + 1)) (lv' := [(4, .int (nI (j5 + 1))), (3, .int x5_3), (0, .ref (a 6)), (1, .int x), (2, .int y)]) hx hb dX7_unitsTo_57 hl (k := 0) rfl (nI_1 j5) (by decide) rfl (fun ls hl => ?_)
        refine lv_goto (tgt := 5) hx hb dX7_unitsTo_60 (by decide) ?_
        have hl8 := hl
        subst hx5_3
        exact ih5 (j5 + 1) (sg_unitsTo_5 P x y j5) _ (show ((sg_unitsTo_5 P x y j5) : Int32) = sg_unitsTo_5 P x y (j5 + 1) from by rw [sg_unitsTo_5, if_neg c_2]) (by omega) (by omega) (lv_sub hl8 [0, 1, 2, 3, 4] rfl)
      · refine lv_aload_n hx hb dX7_unitsTo_25 rfl (lv_at hl 2 rfl) ?_
        refine va_get (D := D) (ci := 7) (v := .ref (a 60)) (C := RX7) (T := TX7) (N := 7) hx hb hts in7 hown hK hP 0 rfl rfl 1 (by decide) (hts (.fieldLink RX7 9 "Granary$Transports" "item" "[I") (by decide +kernel)) (fun _ h9 => h9) rfl dX7_unitsTo_26 ?_
        refine lv_iload hx hb dX7_unitsTo_29 (lv_at hl 0 rfl) ?_
        refine sg_iald hx hb hK hP 1 0 rfl rfl (j := j5) rfl (by omega) (Nat.le_of_ble_eq_true rfl) dX7_unitsTo_31 ?_
        refine lv_toi (y := P 60 j5) rfl ?_
        refine lv_iload_n hx hb dX7_unitsTo_32 rfl (lv_at hl 3 rfl) ?_
        refine lv_icmp_ne (tgt := 57) hx hb dX7_unitsTo_33 (by decide) (fun c_3 => ?_) (fun c_3 => ?_)
        · refine lv_iinc (v := nI (j5 + 1)) (lv' := [(4, .int (nI (j5 + 1))), (3, .int x5_3), (0, .ref (a 6)), (1, .int x), (2, .int y)]) hx hb dX7_unitsTo_57 hl (k := 0) rfl (nI_1 j5) (by decide) rfl (fun ls hl => ?_)
          refine lv_goto (tgt := 5) hx hb dX7_unitsTo_60 (by decide) ?_
          have hl8 := hl
          subst hx5_3
          exact ih5 (j5 + 1) (sg_unitsTo_5 P x y j5) _ (show ((sg_unitsTo_5 P x y j5) : Int32) = sg_unitsTo_5 P x y (j5 + 1) from by rw [sg_unitsTo_5, if_pos c_2, if_neg c_3]) (by omega) (by omega) (lv_sub hl8 [0, 1, 2, 3, 4] rfl)
        · refine lv_aload_n hx hb dX7_unitsTo_36 rfl (lv_at hl 2 rfl) ?_
          refine va_get (D := D) (ci := 7) (v := .ref (a 61)) (C := RX7) (T := TX7) (N := 7) hx hb hts in7 hown hK hP 0 rfl rfl 2 (by decide) (hts (.fieldLink RX7 15 "Granary$Transports" "site" "[I") (by decide +kernel)) (fun _ h9 => h9) rfl dX7_unitsTo_37 ?_
          refine lv_iload hx hb dX7_unitsTo_40 (lv_at hl 0 rfl) ?_
          refine sg_iald hx hb hK hP 2 0 rfl rfl (j := j5) rfl (by omega) (Nat.le_of_ble_eq_true rfl) dX7_unitsTo_42 ?_
          refine lv_toi (y := P 61 j5) rfl ?_
          refine lv_iload_n hx hb dX7_unitsTo_43 rfl (lv_at hl 4 rfl) ?_
          refine lv_icmp_ne (tgt := 57) hx hb dX7_unitsTo_44 (by decide) (fun c_4 => ?_) (fun c_4 => ?_)
          · refine lv_iinc (v := nI (j5 + 1)) (lv' := [(4, .int (nI (j5 + 1))), (3, .int x5_3), (0, .ref (a 6)), (1, .int x), (2, .int y)]) hx hb dX7_unitsTo_57 hl (k := 0) rfl (nI_1 j5) (by decide) rfl (fun ls hl => ?_)
            refine lv_goto (tgt := 5) hx hb dX7_unitsTo_60 (by decide) ?_
            have hl8 := hl
            subst hx5_3
            exact ih5 (j5 + 1) (sg_unitsTo_5 P x y j5) _ (show ((sg_unitsTo_5 P x y j5) : Int32) = sg_unitsTo_5 P x y (j5 + 1) from by rw [sg_unitsTo_5, if_pos c_2, if_pos c_3, if_neg c_4]) (by omega) (by omega) (lv_sub hl8 [0, 1, 2, 3, 4] rfl)
          · refine lv_iload_n hx hb dX7_unitsTo_47 rfl (lv_at hl 1 rfl) ?_
            refine lv_aload_n hx hb dX7_unitsTo_48 rfl (lv_at hl 2 rfl) ?_
            refine va_get (D := D) (ci := 7) (v := .ref (a 62)) (C := RX7) (T := TX7) (N := 7) hx hb hts in7 hown hK hP 0 rfl rfl 3 (by decide) (hts (.fieldLink RX7 18 "Granary$Transports" "units" "[I") (by decide +kernel)) (fun _ h9 => h9) rfl dX7_unitsTo_49 ?_
            refine lv_iload hx hb dX7_unitsTo_52 (lv_at hl 0 rfl) ?_
            refine sg_iald hx hb hK hP 3 0 rfl rfl (j := j5) rfl (by omega) (Nat.le_of_ble_eq_true rfl) dX7_unitsTo_54 ?_
            refine lv_toi (y := P 62 j5) rfl ?_
            refine lv_iadd hx hb dX7_unitsTo_55 ?_
            refine lv_istore_n (lv' := [(3, .int (x5_3 + (P 62 j5))), (4, .int (nI j5)), (0, .ref (a 6)), (1, .int x), (2, .int y)]) hx hb dX7_unitsTo_56 rfl hl (by decide) rfl (fun ls hl => ?_)
            refine lv_iinc (v := nI (j5 + 1)) (lv' := [(4, .int (nI (j5 + 1))), (3, .int (x5_3 + (P 62 j5))), (0, .ref (a 6)), (1, .int x), (2, .int y)]) hx hb dX7_unitsTo_57 hl (k := 1) rfl (nI_1 j5) (by decide) rfl (fun ls hl => ?_)
            refine lv_goto (tgt := 5) hx hb dX7_unitsTo_60 (by decide) ?_
            have hl8 := hl
            subst hx5_3
            exact ih5 (j5 + 1) ((sg_unitsTo_5 P x y j5) + (P 62 j5)) _ (show ((sg_unitsTo_5 P x y j5) + (P 62 j5) : Int32) = sg_unitsTo_5 P x y (j5 + 1) from by rw [sg_unitsTo_5, if_pos c_2, if_pos c_3, if_pos c_4]) (by omega) (by omega) (lv_sub hl8 [0, 1, 2, 3, 4] rfl)

def sg_unitsAt (P : sg_Pic) (x : Int32) (y : Int32) : Int32 := (sg_unitsUpTo P x y 1000000)

set_option maxHeartbeats 4000000 in
set_option maxRecDepth 100000 in
/-- X1_unitsAt -/
theorem c_unitsAt (l : Launch) (D : va_G) (cI cZ cJ : ClassId) (lo sz : Nat) (a : Nat → Nat) (P : sg_Pic) (x : Int32) (y : Int32) (hw : sg_W P) : Met l yX1_unitsAt wsX1_unitsAt ({ frames := 1, cells := 0, slots := 0, locals := 25 }) (Pre lo D cI cZ cJ [.ref (a 4), .int x, .int y] sz [(a 4, .inr (1, [.int (P 0 3), .ref (a 40), .ref (a 41), .ref (a 42), .ref (a 43), .ref (a 44)])), (a 40, .inl (cI, 200, .inl (P 40))), (a 41, .inl (cI, 200, .inl (P 41))), (a 42, .inl (cI, 200, .inl (P 42))), (a 43, .inl (cI, 200, .inl (P 43))), (a 44, .inl (cI, 200, .inl (P 44)))]) (vp_Si (fun r => r = sg_unitsAt P x y)) 0 0 (fun _ => False) := by
  refine Met.ofW (cc := cX1_unitsAt) (maxL := 3) (ret := (some .int)) (by decide) rfl ?_
  intro p e s m args below meth c s₁ B hml hv
  obtain ⟨rfl, hsz, hP, hD0, hC⟩ := hv
  have hx := B.exec
  have hb := B.bytes
  have hr := B.returns
  have hts := atoms_spec (ws := wsX1_unitsAt) B.pre
  have hown : s.vm.findClass RX1 = some m.cls := findClass_of_methodNamed B.named
  have hlocks := B.notSynchronized
  subst hsz
  have hn1 : sg_cn P 1 ≤ 6 := hw.n1
  have hn2 : sg_cn P 2 ≤ 5 := hw.n2
  have hn3 : sg_cn P 3 ≤ 200 := hw.n3
  have hn4 : sg_cn P 4 ≤ 60 := hw.n4
  have hn5 : sg_cn P 5 ≤ 90 := hw.n5
  have hK := hC.K
  have hD := hD0
  have hS : va_S (fun q => lo ≤ q) s.heap s.heap [] := va_S.rf
  have hAlo : ∀ q, (fun q => lo ≤ q) q → lo ≤ q := fun _ h => h
  have hL : ∀ q ∈ ([] : List Loc), (fun _ : Addr => False) q.base := fun q h => by cases h
  have hP : va_P D vwCl [(a 4, .inr (1, [.int (P 0 3), .ref (a 40), .ref (a 41), .ref (a 42), .ref (a 43), .ref (a 44)])), (a 40, .inl (cI, 200, .inl (P 40))), (a 41, .inl (cI, 200, .inl (P 41))), (a 42, .inl (cI, 200, .inl (P 42))), (a 43, .inl (cI, 200, .inl (P 43))), (a 44, .inl (cI, 200, .inl (P 44)))] s.heap := hP
  have hl := lv_entry ([.ref (a 4), .int x, .int y]) (n := 3) (Nat.le_of_ble_eq_true rfl)
  rw [lg_entry_eq]
  generalize (lg_sl ([.ref (a 4), .int x, .int y]) ++ List.replicate (3 - (lg_sl ([.ref (a 4), .int x, .int y])).length) Slot.unset).toArray = ls at hl ⊢
  have hl : lv_has ls 3 [(0, .ref (a 4)), (1, .int x), (2, .int y)] := hl
  refine lv_aload_n hx hb dX1_unitsAt_0 rfl (lv_at hl 0 rfl) ?_
  refine lv_iload_n hx hb dX1_unitsAt_1 rfl (lv_at hl 1 rfl) ?_
  refine lv_iload_n hx hb dX1_unitsAt_2 rfl (lv_at hl 2 rfl) ?_
  refine lv_ldc hx hb (v := 1000000) hown (hts (.constant RX1 31 (1000000)) (by decide +kernel)) dX1_unitsAt_3 ?_
  have hPc : va_P D vwCl [(a 4, .inr (1, [.int (P 0 3), .ref (a 40), .ref (a 41), .ref (a 42), .ref (a 43), .ref (a 44)])), (a 40, .inl (cI, 200, .inl (P 40))), (a 41, .inl (cI, 200, .inl (P 41))), (a 42, .inl (cI, 200, .inl (P 42))), (a 43, .inl (cI, 200, .inl (P 43))), (a 44, .inl (cI, 200, .inl (P 44)))] s.heap := hP
  have hDc : va_D (fun q : Nat => lo ≤ q) [(a 4, .inr (1, [.int (P 0 3), .ref (a 40), .ref (a 41), .ref (a 42), .ref (a 43), .ref (a 44)])), (a 40, .inl (cI, 200, .inl (P 40))), (a 41, .inl (cI, 200, .inl (P 41))), (a 42, .inl (cI, 200, .inl (P 42))), (a 43, .inl (cI, 200, .inl (P 43))), (a 44, .inl (cI, 200, .inl (P 44)))] := hD
  refine vp_callSi (W.runV (As := [.int x, .int y, .int 1000000]) (rest := []) ⟨hx, hb, hml, hown, hts⟩ (c_unitsUpTo l D cI cZ cJ lo s.heap.size a P x y 1000000 hw) (cwV 3 hts gX1_unitsAt_X1_unitsUpTo rfl rfl rfl (by decide +kernel) ⟨(Nat.le_of_ble_eq_true rfl), (Nat.le_of_ble_eq_true rfl)⟩) ⟨Pre.blind, va_recv hK hP (ci := 1) (q0 := 0) rfl rfl, Pre.mk hPc (hDc.weaken (fun _ _ _ h => hAlo _ h)) hC hS hAlo⟩ rfl rfl hl.1 rfl (lv_room (Nat.le_of_ble_eq_true rfl)) dX1_unitsAt_5 ⟨(Nat.le_of_ble_eq_true rfl), (Nat.le_of_ble_eq_true rfl)⟩) (fun r_1 e_2 => ?_)
  clear hPc hDc
  have e_2 : sg_unitsUpTo P x y 1000000 = r_1 := Eq.symm e_2
  subst e_2
  exact W.iret (v := (sg_unitsUpTo P x y 1000000)) hx hb hr (fun t ht hW => ⟨(sg_unitsUpTo P x y 1000000), rfl, rfl, ht⟩) hL dX1_unitsAt_8

def sg_freeAt (P : sg_Pic) (x : Int32) (y : Int32) : Int32 := (sg_freeFrom P x y 0)

set_option maxHeartbeats 4000000 in
set_option maxRecDepth 100000 in
/-- X1_freeAt -/
theorem c_freeAt (l : Launch) (D : va_G) (cI cZ cJ : ClassId) (lo sz : Nat) (a : Nat → Nat) (P : sg_Pic) (x : Int32) (y : Int32) (hw : sg_W P) : Met l yX1_freeAt wsX1_freeAt ({ frames := 2, cells := 0, slots := 0, locals := 46 }) (Pre lo D cI cZ cJ [.ref (a 4), .int x, .int y] sz [(a 4, .inr (1, [.int (P 0 3), .ref (a 40), .ref (a 41), .ref (a 42), .ref (a 43), .ref (a 44)])), (a 40, .inl (cI, 200, .inl (P 40))), (a 41, .inl (cI, 200, .inl (P 41))), (a 42, .inl (cI, 200, .inl (P 42))), (a 43, .inl (cI, 200, .inl (P 43))), (a 44, .inl (cI, 200, .inl (P 44)))]) (vp_Si (fun r => r = sg_freeAt P x y)) 0 0 (fun _ => False) := by
  refine Met.ofW (cc := cX1_freeAt) (maxL := 3) (ret := (some .int)) (by decide) rfl ?_
  intro p e s m args below meth c s₁ B hml hv
  obtain ⟨rfl, hsz, hP, hD0, hC⟩ := hv
  have hx := B.exec
  have hb := B.bytes
  have hr := B.returns
  have hts := atoms_spec (ws := wsX1_freeAt) B.pre
  have hown : s.vm.findClass RX1 = some m.cls := findClass_of_methodNamed B.named
  have hlocks := B.notSynchronized
  subst hsz
  have hn1 : sg_cn P 1 ≤ 6 := hw.n1
  have hn2 : sg_cn P 2 ≤ 5 := hw.n2
  have hn3 : sg_cn P 3 ≤ 200 := hw.n3
  have hn4 : sg_cn P 4 ≤ 60 := hw.n4
  have hn5 : sg_cn P 5 ≤ 90 := hw.n5
  have hK := hC.K
  have hD := hD0
  have hS : va_S (fun q => lo ≤ q) s.heap s.heap [] := va_S.rf
  have hAlo : ∀ q, (fun q => lo ≤ q) q → lo ≤ q := fun _ h => h
  have hL : ∀ q ∈ ([] : List Loc), (fun _ : Addr => False) q.base := fun q h => by cases h
  have hP : va_P D vwCl [(a 4, .inr (1, [.int (P 0 3), .ref (a 40), .ref (a 41), .ref (a 42), .ref (a 43), .ref (a 44)])), (a 40, .inl (cI, 200, .inl (P 40))), (a 41, .inl (cI, 200, .inl (P 41))), (a 42, .inl (cI, 200, .inl (P 42))), (a 43, .inl (cI, 200, .inl (P 43))), (a 44, .inl (cI, 200, .inl (P 44)))] s.heap := hP
  have hl := lv_entry ([.ref (a 4), .int x, .int y]) (n := 3) (Nat.le_of_ble_eq_true rfl)
  rw [lg_entry_eq]
  generalize (lg_sl ([.ref (a 4), .int x, .int y]) ++ List.replicate (3 - (lg_sl ([.ref (a 4), .int x, .int y])).length) Slot.unset).toArray = ls at hl ⊢
  have hl : lv_has ls 3 [(0, .ref (a 4)), (1, .int x), (2, .int y)] := hl
  refine lv_aload_n hx hb dX1_freeAt_0 rfl (lv_at hl 0 rfl) ?_
  refine lv_iload_n hx hb dX1_freeAt_1 rfl (lv_at hl 1 rfl) ?_
  refine lv_iload_n hx hb dX1_freeAt_2 rfl (lv_at hl 2 rfl) ?_
  refine lv_iconst (v := 0) hx hb dX1_freeAt_3 (by decide) ?_
  have hPc : va_P D vwCl [(a 4, .inr (1, [.int (P 0 3), .ref (a 40), .ref (a 41), .ref (a 42), .ref (a 43), .ref (a 44)])), (a 40, .inl (cI, 200, .inl (P 40))), (a 41, .inl (cI, 200, .inl (P 41))), (a 42, .inl (cI, 200, .inl (P 42))), (a 43, .inl (cI, 200, .inl (P 43))), (a 44, .inl (cI, 200, .inl (P 44)))] s.heap := hP
  have hDc : va_D (fun q : Nat => lo ≤ q) [(a 4, .inr (1, [.int (P 0 3), .ref (a 40), .ref (a 41), .ref (a 42), .ref (a 43), .ref (a 44)])), (a 40, .inl (cI, 200, .inl (P 40))), (a 41, .inl (cI, 200, .inl (P 41))), (a 42, .inl (cI, 200, .inl (P 42))), (a 43, .inl (cI, 200, .inl (P 43))), (a 44, .inl (cI, 200, .inl (P 44)))] := hD
  refine vp_callSi (W.runV (As := [.int x, .int y, .int 0]) (rest := []) ⟨hx, hb, hml, hown, hts⟩ (c_freeFrom l D cI cZ cJ lo s.heap.size a P x y 0 hw) (cwV 3 hts gX1_freeAt_X1_freeFrom rfl rfl rfl (by decide +kernel) ⟨(Nat.le_of_ble_eq_true rfl), (Nat.le_of_ble_eq_true rfl)⟩) ⟨Pre.blind, va_recv hK hP (ci := 1) (q0 := 0) rfl rfl, Pre.mk hPc (hDc.weaken (fun _ _ _ h => hAlo _ h)) hC hS hAlo⟩ rfl rfl hl.1 rfl (lv_room (Nat.le_of_ble_eq_true rfl)) dX1_freeAt_4 ⟨(Nat.le_of_ble_eq_true rfl), (Nat.le_of_ble_eq_true rfl)⟩) (fun r_1 e_2 => ?_)
  clear hPc hDc
  have e_2 : sg_freeFrom P x y 0 = r_1 := Eq.symm e_2
  subst e_2
  exact W.iret (v := (sg_freeFrom P x y 0)) hx hb hr (fun t ht hW => ⟨(sg_freeFrom P x y 0), rfl, rfl, ht⟩) hL dX1_freeAt_7
end
section
abbrev cX0_priceOf : ByteArray := prog_2_method_4_code
def yX0_priceOf : MethodName := ⟨RX0, "priceOf", "(I)I"⟩
abbrev cX0_inPacks : ByteArray := prog_2_method_5_code
def yX0_inPacks : MethodName := ⟨RX0, "inPacks", "(II)I"⟩
abbrev cX0_classFor : ByteArray := prog_2_method_6_code
def yX0_classFor : MethodName := ⟨RX0, "classFor", "(I)I"⟩
abbrev cX1_tell : ByteArray := prog_3_method_4_code
def yX1_tell : MethodName := ⟨RX1, "tell", "(II)I"⟩
abbrev cX1_firstFree : ByteArray := prog_3_method_11_code
def yX1_firstFree : MethodName := ⟨RX1, "firstFree", "(III)I"⟩
abbrev cX2_tell : ByteArray := prog_4_method_4_code
def yX2_tell : MethodName := ⟨RX2, "tell", "(II)I"⟩
abbrev wsX40 : List Cond := u_ws RX4 TX4 5
abbrev cX4_stands : ByteArray := prog_6_method_2_code
def yX4_stands : MethodName := ⟨RX4, "stands", "(II)Z"⟩
abbrev cX5_daysBetween : ByteArray := prog_7_method_4_code
def yX5_daysBetween : MethodName := ⟨RX5, "daysBetween", "(II)I"⟩
abbrev wsX60 : List Cond := u_ws RX6 TX6 9
abbrev cX6_roomAt : ByteArray := prog_8_method_3_code
def yX6_roomAt : MethodName := ⟨RX6, "roomAt", "(I)I"⟩
abbrev cX6_positionAt : ByteArray := prog_8_method_4_code
def yX6_positionAt : MethodName := ⟨RX6, "positionAt", "(II)I"⟩
abbrev cX6_lackAt : ByteArray := prog_8_method_5_code
def yX6_lackAt : MethodName := ⟨RX6, "lackAt", "(II)I"⟩
abbrev cX6_spareAt : ByteArray := prog_8_method_6_code
def yX6_spareAt : MethodName := ⟨RX6, "spareAt", "(II)I"⟩
abbrev cX6_rateOver : ByteArray := prog_8_method_7_code
def yX6_rateOver : MethodName := ⟨RX6, "rateOver", "(III)I"⟩
abbrev cX7_tell : ByteArray := prog_9_method_5_code
def yX7_tell : MethodName := ⟨RX7, "tell", "(II)I"⟩
def wsX0_priceOf : List Cond := .code yX0_priceOf cX0_priceOf 2 (some .int) :: ([.fieldLink RX0 15 "Granary$Items" "price" "[I", .methodLink RX0 28 yX0_has, .instanceMethod yX0_has, .selects RX0 yX0_has yX0_has, .initialized RX0, .code yX0_has cX0_has 2 (some .boolean), .fieldLink RX0 24 "Granary$Items" "count" "I"] ++ wsX00)
def wsX0_inPacks : List Cond := .code yX0_inPacks cX0_inPacks 4 (some .int) :: ([.fieldLink RX0 18 "Granary$Items" "pack" "[I", .methodLink RX0 28 yX0_has, .instanceMethod yX0_has, .selects RX0 yX0_has yX0_has, .initialized RX0, .code yX0_has cX0_has 2 (some .boolean), .fieldLink RX0 24 "Granary$Items" "count" "I"] ++ wsX00)
def wsX0_classFor : List Cond := .code yX0_classFor cX0_classFor 5 (some .int) :: ([.fieldLink RX0 24 "Granary$Items" "count" "I", .fieldLink RX0 21 "Granary$Items" "earned" "[I"] ++ wsX00)
def wsX1_tell : List Cond := .code yX1_tell cX1_tell 3 (some .int) :: ([.fieldLink RX1 9 "Granary$Lots" "item" "[I", .fieldLink RX1 15 "Granary$Lots" "site" "[I", .fieldLink RX1 18 "Granary$Lots" "units" "[I", .fieldLink RX1 21 "Granary$Lots" "reserved" "[I", .fieldLink RX1 24 "Granary$Lots" "last" "[I"] ++ wsX10)
def wsX1_firstFree : List Cond := .code yX1_firstFree cX1_firstFree 6 (some .int) :: ([.fieldLink RX1 27 "Granary$Lots" "count" "I", .fieldLink RX1 9 "Granary$Lots" "item" "[I", .fieldLink RX1 15 "Granary$Lots" "site" "[I", .fieldLink RX1 24 "Granary$Lots" "last" "[I", .methodLink RX1 39 yX1_freeOf, .instanceMethod yX1_freeOf, .selects RX1 yX1_freeOf yX1_freeOf, .initialized RX1, .code yX1_freeOf cX1_freeOf 2 (some .int), .fieldLink RX1 18 "Granary$Lots" "units" "[I", .fieldLink RX1 21 "Granary$Lots" "reserved" "[I"] ++ wsX10)
def wsX2_tell : List Cond := .code yX2_tell cX2_tell 3 (some .int) :: ([.fieldLink RX2 33 "Granary$Orders" "state" "[I", .fieldLink RX2 18 "Granary$Orders" "units" "[I", .fieldLink RX2 21 "Granary$Orders" "reserved" "[I", .fieldLink RX2 24 "Granary$Orders" "due" "[I", .fieldLink RX2 36 "Granary$Orders" "shipDay" "[I"] ++ wsX20)
def wsX4_stands : List Cond := .code yX4_stands cX4_stands 3 (some .boolean) :: ([.fieldLink RX4 11 "Granary$Policies" "set" "[Z", .static yX8_pair, .initialized RX8, .code yX8_pair cX8_pair 2 (some .int)] ++ wsX40)
def wsX6_positionAt_r1 : List Cond := [Cond.fieldLink RX6 35 "Granary$Stock" "lots" "LGranary$Lots;", Cond.fieldLink RX6 49 "Granary$Stock" "transports" "LGranary$Transports;", Cond.fieldLink RX6 42 "Granary$Stock" "orders" "LGranary$Orders;", Cond.methodLink RX6 100 yX1_unitsAt, Cond.instanceMethod yX1_unitsAt, Cond.selects RX1 yX1_unitsAt yX1_unitsAt, Cond.initialized RX1, Cond.code yX1_unitsAt cX1_unitsAt 3 (some .int), Cond.constant RX1 31 (1000000), Cond.methodLink RX1 32 yX1_unitsUpTo, Cond.instanceMethod yX1_unitsUpTo, Cond.selects RX1 yX1_unitsUpTo yX1_unitsUpTo, Cond.code yX1_unitsUpTo cX1_unitsUpTo 6 (some .int), Cond.fieldLink RX1 27 "Granary$Lots" "count" "I", Cond.fieldLink RX1 9 "Granary$Lots" "item" "[I", Cond.fieldLink RX1 15 "Granary$Lots" "site" "[I", Cond.fieldLink RX1 24 "Granary$Lots" "last" "[I", Cond.fieldLink RX1 18 "Granary$Lots" "units" "[I", Cond.methodLink RX6 104 yX7_unitsTo, Cond.instanceMethod yX7_unitsTo, Cond.selects RX7 yX7_unitsTo yX7_unitsTo, Cond.initialized RX7, Cond.code yX7_unitsTo cX7_unitsTo 5 (some .int), Cond.fieldLink RX7 30 "Granary$Transports" "count" "I"]
def wsX6_positionAt_r2 : List Cond := [Cond.fieldLink RX7 27 "Granary$Transports" "moving" "[I", Cond.fieldLink RX7 9 "Granary$Transports" "item" "[I", Cond.fieldLink RX7 15 "Granary$Transports" "site" "[I", Cond.fieldLink RX7 18 "Granary$Transports" "units" "[I", Cond.methodLink RX6 107 yX2_openUnitsFrom, Cond.instanceMethod yX2_openUnitsFrom, Cond.selects RX2 yX2_openUnitsFrom yX2_openUnitsFrom, Cond.initialized RX2, Cond.code yX2_openUnitsFrom cX2_openUnitsFrom 5 (some .int), Cond.fieldLink RX2 42 "Granary$Orders" "count" "I", Cond.fieldLink RX2 33 "Granary$Orders" "state" "[I", Cond.fieldLink RX2 18 "Granary$Orders" "units" "[I", Cond.methodLink RX2 46 yX2_isFrom, Cond.instanceMethod yX2_isFrom, Cond.selects RX2 yX2_isFrom yX2_isFrom, Cond.code yX2_isFrom cX2_isFrom 4 (some .boolean), Cond.fieldLink RX2 9 "Granary$Orders" "item" "[I", Cond.fieldLink RX2 15 "Granary$Orders" "site" "[I"]
def wsX6_positionAt : List Cond := .code yX6_positionAt cX6_positionAt 3 (some .int) :: ((wsX6_positionAt_r1 ++ wsX6_positionAt_r2) ++ wsX60 ++ wsX10 ++ wsX70 ++ wsX20)
def wsX6_spareAt_r1 : List Cond := [Cond.fieldLink RX6 28 "Granary$Stock" "policies" "LGranary$Policies;", Cond.fieldLink RX6 128 "Granary$Policies" "top" "[I", Cond.fieldLink RX6 35 "Granary$Stock" "lots" "LGranary$Lots;", Cond.methodLink RX6 134 Lib.Math.min.name, Cond.static Lib.Math.min.name, Cond.initialized "java/lang/Math", Cond.code Lib.Math.min.name Lib.Math.min.code 2 (some .int), Cond.methodLink RX6 123 Lib.Math.max.name, Cond.static Lib.Math.max.name, Cond.code Lib.Math.max.name Lib.Math.max.code 2 (some .int), Cond.methodLink RX6 110 yX4_stands, Cond.instanceMethod yX4_stands, Cond.selects RX4 yX4_stands yX4_stands, Cond.initialized RX4, Cond.code yX4_stands cX4_stands 3 (some .boolean), Cond.fieldLink RX4 11 "Granary$Policies" "set" "[Z", Cond.static yX8_pair, Cond.initialized RX8, Cond.code yX8_pair cX8_pair 2 (some .int), Cond.methodLink RX6 120 yX6_positionAt, Cond.instanceMethod yX6_positionAt, Cond.selects RX6 yX6_positionAt yX6_positionAt, Cond.initialized RX6, Cond.code yX6_positionAt cX6_positionAt 3 (some .int)]
def wsX6_spareAt_r2 : List Cond := [Cond.fieldLink RX6 49 "Granary$Stock" "transports" "LGranary$Transports;", Cond.fieldLink RX6 42 "Granary$Stock" "orders" "LGranary$Orders;", Cond.methodLink RX6 100 yX1_unitsAt, Cond.instanceMethod yX1_unitsAt, Cond.selects RX1 yX1_unitsAt yX1_unitsAt, Cond.initialized RX1, Cond.code yX1_unitsAt cX1_unitsAt 3 (some .int), Cond.constant RX1 31 (1000000), Cond.methodLink RX1 32 yX1_unitsUpTo, Cond.instanceMethod yX1_unitsUpTo, Cond.selects RX1 yX1_unitsUpTo yX1_unitsUpTo, Cond.code yX1_unitsUpTo cX1_unitsUpTo 6 (some .int), Cond.fieldLink RX1 27 "Granary$Lots" "count" "I", Cond.fieldLink RX1 9 "Granary$Lots" "item" "[I", Cond.fieldLink RX1 15 "Granary$Lots" "site" "[I", Cond.fieldLink RX1 24 "Granary$Lots" "last" "[I", Cond.fieldLink RX1 18 "Granary$Lots" "units" "[I", Cond.methodLink RX6 104 yX7_unitsTo, Cond.instanceMethod yX7_unitsTo, Cond.selects RX7 yX7_unitsTo yX7_unitsTo, Cond.initialized RX7, Cond.code yX7_unitsTo cX7_unitsTo 5 (some .int), Cond.fieldLink RX7 30 "Granary$Transports" "count" "I", Cond.fieldLink RX7 27 "Granary$Transports" "moving" "[I"]
def wsX6_spareAt_r3 : List Cond := [Cond.fieldLink RX7 9 "Granary$Transports" "item" "[I", Cond.fieldLink RX7 15 "Granary$Transports" "site" "[I", Cond.fieldLink RX7 18 "Granary$Transports" "units" "[I", Cond.methodLink RX6 107 yX2_openUnitsFrom, Cond.instanceMethod yX2_openUnitsFrom, Cond.selects RX2 yX2_openUnitsFrom yX2_openUnitsFrom, Cond.initialized RX2, Cond.code yX2_openUnitsFrom cX2_openUnitsFrom 5 (some .int), Cond.fieldLink RX2 42 "Granary$Orders" "count" "I", Cond.fieldLink RX2 33 "Granary$Orders" "state" "[I", Cond.fieldLink RX2 18 "Granary$Orders" "units" "[I", Cond.methodLink RX2 46 yX2_isFrom, Cond.instanceMethod yX2_isFrom, Cond.selects RX2 yX2_isFrom yX2_isFrom, Cond.code yX2_isFrom cX2_isFrom 4 (some .boolean), Cond.fieldLink RX2 9 "Granary$Orders" "item" "[I", Cond.fieldLink RX2 15 "Granary$Orders" "site" "[I", Cond.methodLink RX6 131 yX1_freeAt, Cond.instanceMethod yX1_freeAt, Cond.selects RX1 yX1_freeAt yX1_freeAt, Cond.code yX1_freeAt cX1_freeAt 3 (some .int), Cond.methodLink RX1 36 yX1_freeFrom, Cond.instanceMethod yX1_freeFrom, Cond.selects RX1 yX1_freeFrom yX1_freeFrom]
def wsX6_spareAt_r4 : List Cond := [Cond.code yX1_freeFrom cX1_freeFrom 6 (some .int), Cond.methodLink RX1 39 yX1_freeOf, Cond.instanceMethod yX1_freeOf, Cond.selects RX1 yX1_freeOf yX1_freeOf, Cond.code yX1_freeOf cX1_freeOf 2 (some .int), Cond.fieldLink RX1 21 "Granary$Lots" "reserved" "[I"]
def wsX6_spareAt : List Cond := .code yX6_spareAt cX6_spareAt 4 (some .int) :: ((wsX6_spareAt_r1 ++ (wsX6_spareAt_r2 ++ (wsX6_spareAt_r3 ++ wsX6_spareAt_r4))) ++ wsX60 ++ wsX40 ++ wsX10 ++ wsX70 ++ wsX20)
def wsX6_lackAt_r1 : List Cond := [Cond.fieldLink RX6 28 "Granary$Stock" "policies" "LGranary$Policies;", Cond.fieldLink RX6 114 "Granary$Policies" "point" "[I", Cond.methodLink RX6 123 Lib.Math.max.name, Cond.static Lib.Math.max.name, Cond.initialized "java/lang/Math", Cond.code Lib.Math.max.name Lib.Math.max.code 2 (some .int), Cond.methodLink RX6 110 yX4_stands, Cond.instanceMethod yX4_stands, Cond.selects RX4 yX4_stands yX4_stands, Cond.initialized RX4, Cond.code yX4_stands cX4_stands 3 (some .boolean), Cond.fieldLink RX4 11 "Granary$Policies" "set" "[Z", Cond.static yX8_pair, Cond.initialized RX8, Cond.code yX8_pair cX8_pair 2 (some .int), Cond.methodLink RX6 120 yX6_positionAt, Cond.instanceMethod yX6_positionAt, Cond.selects RX6 yX6_positionAt yX6_positionAt, Cond.initialized RX6, Cond.code yX6_positionAt cX6_positionAt 3 (some .int), Cond.fieldLink RX6 35 "Granary$Stock" "lots" "LGranary$Lots;", Cond.fieldLink RX6 49 "Granary$Stock" "transports" "LGranary$Transports;", Cond.fieldLink RX6 42 "Granary$Stock" "orders" "LGranary$Orders;", Cond.methodLink RX6 100 yX1_unitsAt]
def wsX6_lackAt_r2 : List Cond := [Cond.instanceMethod yX1_unitsAt, Cond.selects RX1 yX1_unitsAt yX1_unitsAt, Cond.initialized RX1, Cond.code yX1_unitsAt cX1_unitsAt 3 (some .int), Cond.constant RX1 31 (1000000), Cond.methodLink RX1 32 yX1_unitsUpTo, Cond.instanceMethod yX1_unitsUpTo, Cond.selects RX1 yX1_unitsUpTo yX1_unitsUpTo, Cond.code yX1_unitsUpTo cX1_unitsUpTo 6 (some .int), Cond.fieldLink RX1 27 "Granary$Lots" "count" "I", Cond.fieldLink RX1 9 "Granary$Lots" "item" "[I", Cond.fieldLink RX1 15 "Granary$Lots" "site" "[I", Cond.fieldLink RX1 24 "Granary$Lots" "last" "[I", Cond.fieldLink RX1 18 "Granary$Lots" "units" "[I", Cond.methodLink RX6 104 yX7_unitsTo, Cond.instanceMethod yX7_unitsTo, Cond.selects RX7 yX7_unitsTo yX7_unitsTo, Cond.initialized RX7, Cond.code yX7_unitsTo cX7_unitsTo 5 (some .int), Cond.fieldLink RX7 30 "Granary$Transports" "count" "I", Cond.fieldLink RX7 27 "Granary$Transports" "moving" "[I", Cond.fieldLink RX7 9 "Granary$Transports" "item" "[I", Cond.fieldLink RX7 15 "Granary$Transports" "site" "[I", Cond.fieldLink RX7 18 "Granary$Transports" "units" "[I"]
def wsX6_lackAt_r3 : List Cond := [Cond.methodLink RX6 107 yX2_openUnitsFrom, Cond.instanceMethod yX2_openUnitsFrom, Cond.selects RX2 yX2_openUnitsFrom yX2_openUnitsFrom, Cond.initialized RX2, Cond.code yX2_openUnitsFrom cX2_openUnitsFrom 5 (some .int), Cond.fieldLink RX2 42 "Granary$Orders" "count" "I", Cond.fieldLink RX2 33 "Granary$Orders" "state" "[I", Cond.fieldLink RX2 18 "Granary$Orders" "units" "[I", Cond.methodLink RX2 46 yX2_isFrom, Cond.instanceMethod yX2_isFrom, Cond.selects RX2 yX2_isFrom yX2_isFrom, Cond.code yX2_isFrom cX2_isFrom 4 (some .boolean), Cond.fieldLink RX2 9 "Granary$Orders" "item" "[I", Cond.fieldLink RX2 15 "Granary$Orders" "site" "[I"]
def wsX6_lackAt : List Cond := .code yX6_lackAt cX6_lackAt 3 (some .int) :: ((wsX6_lackAt_r1 ++ (wsX6_lackAt_r2 ++ wsX6_lackAt_r3)) ++ wsX60 ++ wsX40 ++ wsX10 ++ wsX70 ++ wsX20)
def wsX5_daysBetween : List Cond := .code yX5_daysBetween cX5_daysBetween 3 (some .int) :: ([.fieldLink RX5 15 "Granary$Sites" "days" "[I", .methodLink RX5 22 yX5_has, .instanceMethod yX5_has, .selects RX5 yX5_has yX5_has, .initialized RX5, .code yX5_has cX5_has 2 (some .boolean), .fieldLink RX5 18 "Granary$Sites" "count" "I", .static yX8_pair, .initialized RX8, .code yX8_pair cX8_pair 2 (some .int)] ++ wsX50)
def wsX6_roomAt : List Cond := .code yX6_roomAt cX6_roomAt 2 (some .int) :: ([.fieldLink RX6 21 "Granary$Stock" "sites" "LGranary$Sites;", .fieldLink RX6 93 "Granary$Sites" "room" "[I", .fieldLink RX6 35 "Granary$Stock" "lots" "LGranary$Lots;", .methodLink RX6 89 yX5_has, .instanceMethod yX5_has, .selects RX5 yX5_has yX5_has, .initialized RX5, .code yX5_has cX5_has 2 (some .boolean), .fieldLink RX5 18 "Granary$Sites" "count" "I", .methodLink RX6 96 yX1_allUnitsAt, .instanceMethod yX1_allUnitsAt, .selects RX1 yX1_allUnitsAt yX1_allUnitsAt, .initialized RX1, .code yX1_allUnitsAt cX1_allUnitsAt 4 (some .int), .fieldLink RX1 27 "Granary$Lots" "count" "I", .fieldLink RX1 15 "Granary$Lots" "site" "[I", .fieldLink RX1 18 "Granary$Lots" "units" "[I"] ++ wsX60 ++ wsX50 ++ wsX10)
def wsX6_rateOver : List Cond := .code yX6_rateOver cX6_rateOver 4 (some .int) :: ([.fieldLink RX6 42 "Granary$Stock" "orders" "LGranary$Orders;", .fieldLink RX6 60 "Granary$Stock" "day" "I", .methodLink RX6 137 yX2_useWithin, .instanceMethod yX2_useWithin, .selects RX2 yX2_useWithin yX2_useWithin, .initialized RX2, .code yX2_useWithin cX2_useWithin 7 (some .int), .fieldLink RX2 42 "Granary$Orders" "count" "I", .fieldLink RX2 33 "Granary$Orders" "state" "[I", .fieldLink RX2 24 "Granary$Orders" "due" "[I", .fieldLink RX2 18 "Granary$Orders" "units" "[I", .methodLink RX2 46 yX2_isFrom, .instanceMethod yX2_isFrom, .selects RX2 yX2_isFrom yX2_isFrom, .code yX2_isFrom cX2_isFrom 4 (some .boolean), .fieldLink RX2 9 "Granary$Orders" "item" "[I", .fieldLink RX2 15 "Granary$Orders" "site" "[I"] ++ wsX60 ++ wsX20)
def wsX7_tell : List Cond := .code yX7_tell cX7_tell 3 (some .int) :: ([.fieldLink RX7 9 "Granary$Transports" "item" "[I", .fieldLink RX7 15 "Granary$Transports" "site" "[I", .fieldLink RX7 18 "Granary$Transports" "units" "[I", .fieldLink RX7 21 "Granary$Transports" "arrival" "[I", .fieldLink RX7 24 "Granary$Transports" "last" "[I", .fieldLink RX7 27 "Granary$Transports" "moving" "[I"] ++ wsX70)
end
section
theorem dX0_priceOf_0 : decode cX0_priceOf 0 = .ok (.aload_n 0, 1) := by decide +kernel
theorem dX0_priceOf_1 : decode cX0_priceOf 1 = .ok (.iload_n 1, 1) := by decide +kernel
theorem dX0_priceOf_2 : decode cX0_priceOf 2 = .ok (.invokevirtual 28, 3) := by decide +kernel
theorem dX0_priceOf_5 : decode cX0_priceOf 5 = .ok (.ifCond .eq 12, 3) := by decide +kernel
theorem dX0_priceOf_8 : decode cX0_priceOf 8 = .ok (.aload_n 0, 1) := by decide +kernel
theorem dX0_priceOf_9 : decode cX0_priceOf 9 = .ok (.getfield 15, 3) := by decide +kernel
theorem dX0_priceOf_12 : decode cX0_priceOf 12 = .ok (.iload_n 1, 1) := by decide +kernel
theorem dX0_priceOf_13 : decode cX0_priceOf 13 = .ok (.iaload, 1) := by decide +kernel
theorem dX0_priceOf_14 : decode cX0_priceOf 14 = .ok (.goto 4, 3) := by decide +kernel
theorem dX0_priceOf_17 : decode cX0_priceOf 17 = .ok (.iconst 0, 1) := by decide +kernel
theorem dX0_priceOf_18 : decode cX0_priceOf 18 = .ok (.ireturn, 1) := by decide +kernel
theorem dX0_inPacks_0 : decode cX0_inPacks 0 = .ok (.aload_n 0, 1) := by decide +kernel
theorem dX0_inPacks_1 : decode cX0_inPacks 1 = .ok (.iload_n 1, 1) := by decide +kernel
theorem dX0_inPacks_2 : decode cX0_inPacks 2 = .ok (.invokevirtual 28, 3) := by decide +kernel
theorem dX0_inPacks_5 : decode cX0_inPacks 5 = .ok (.ifCond .eq 12, 3) := by decide +kernel
theorem dX0_inPacks_8 : decode cX0_inPacks 8 = .ok (.aload_n 0, 1) := by decide +kernel
theorem dX0_inPacks_9 : decode cX0_inPacks 9 = .ok (.getfield 18, 3) := by decide +kernel
theorem dX0_inPacks_12 : decode cX0_inPacks 12 = .ok (.iload_n 1, 1) := by decide +kernel
theorem dX0_inPacks_13 : decode cX0_inPacks 13 = .ok (.iaload, 1) := by decide +kernel
theorem dX0_inPacks_14 : decode cX0_inPacks 14 = .ok (.ifCond .gt 5, 3) := by decide +kernel
theorem dX0_inPacks_17 : decode cX0_inPacks 17 = .ok (.iload_n 2, 1) := by decide +kernel
theorem dX0_inPacks_18 : decode cX0_inPacks 18 = .ok (.ireturn, 1) := by decide +kernel
theorem dX0_inPacks_19 : decode cX0_inPacks 19 = .ok (.iload_n 2, 1) := by decide +kernel
theorem dX0_inPacks_20 : decode cX0_inPacks 20 = .ok (.aload_n 0, 1) := by decide +kernel
theorem dX0_inPacks_21 : decode cX0_inPacks 21 = .ok (.getfield 18, 3) := by decide +kernel
theorem dX0_inPacks_24 : decode cX0_inPacks 24 = .ok (.iload_n 1, 1) := by decide +kernel
theorem dX0_inPacks_25 : decode cX0_inPacks 25 = .ok (.iaload, 1) := by decide +kernel
theorem dX0_inPacks_26 : decode cX0_inPacks 26 = .ok (.irem, 1) := by decide +kernel
theorem dX0_inPacks_27 : decode cX0_inPacks 27 = .ok (.istore_n 3, 1) := by decide +kernel
theorem dX0_inPacks_28 : decode cX0_inPacks 28 = .ok (.iload_n 3, 1) := by decide +kernel
theorem dX0_inPacks_29 : decode cX0_inPacks 29 = .ok (.ifCond .ne 7, 3) := by decide +kernel
theorem dX0_inPacks_32 : decode cX0_inPacks 32 = .ok (.iload_n 2, 1) := by decide +kernel
theorem dX0_inPacks_33 : decode cX0_inPacks 33 = .ok (.goto 13, 3) := by decide +kernel
theorem dX0_inPacks_36 : decode cX0_inPacks 36 = .ok (.iload_n 2, 1) := by decide +kernel
theorem dX0_inPacks_37 : decode cX0_inPacks 37 = .ok (.aload_n 0, 1) := by decide +kernel
theorem dX0_inPacks_38 : decode cX0_inPacks 38 = .ok (.getfield 18, 3) := by decide +kernel
theorem dX0_inPacks_41 : decode cX0_inPacks 41 = .ok (.iload_n 1, 1) := by decide +kernel
theorem dX0_inPacks_42 : decode cX0_inPacks 42 = .ok (.iaload, 1) := by decide +kernel
theorem dX0_inPacks_43 : decode cX0_inPacks 43 = .ok (.iadd, 1) := by decide +kernel
theorem dX0_inPacks_44 : decode cX0_inPacks 44 = .ok (.iload_n 3, 1) := by decide +kernel
theorem dX0_inPacks_45 : decode cX0_inPacks 45 = .ok (.isub, 1) := by decide +kernel
theorem dX0_inPacks_46 : decode cX0_inPacks 46 = .ok (.ireturn, 1) := by decide +kernel
theorem dX0_classFor_0 : decode cX0_classFor 0 = .ok (.iconst 0, 1) := by decide +kernel
theorem dX0_classFor_1 : decode cX0_classFor 1 = .ok (.istore_n 2, 1) := by decide +kernel
theorem dX0_classFor_2 : decode cX0_classFor 2 = .ok (.iconst 0, 1) := by decide +kernel
theorem dX0_classFor_3 : decode cX0_classFor 3 = .ok (.istore_n 3, 1) := by decide +kernel
theorem dX0_classFor_4 : decode cX0_classFor 4 = .ok (.iconst 0, 1) := by decide +kernel
theorem dX0_classFor_5 : decode cX0_classFor 5 = .ok (.istore 4, 2) := by decide +kernel
theorem dX0_classFor_7 : decode cX0_classFor 7 = .ok (.iload 4, 2) := by decide +kernel
theorem dX0_classFor_9 : decode cX0_classFor 9 = .ok (.aload_n 0, 1) := by decide +kernel
theorem dX0_classFor_10 : decode cX0_classFor 10 = .ok (.getfield 24, 3) := by decide +kernel
theorem dX0_classFor_13 : decode cX0_classFor 13 = .ok (.if_icmp .ge 67, 3) := by decide +kernel
theorem dX0_classFor_16 : decode cX0_classFor 16 = .ok (.iload_n 2, 1) := by decide +kernel
theorem dX0_classFor_17 : decode cX0_classFor 17 = .ok (.aload_n 0, 1) := by decide +kernel
theorem dX0_classFor_18 : decode cX0_classFor 18 = .ok (.getfield 21, 3) := by decide +kernel
theorem dX0_classFor_21 : decode cX0_classFor 21 = .ok (.iload 4, 2) := by decide +kernel
theorem dX0_classFor_23 : decode cX0_classFor 23 = .ok (.iaload, 1) := by decide +kernel
theorem dX0_classFor_24 : decode cX0_classFor 24 = .ok (.iadd, 1) := by decide +kernel
theorem dX0_classFor_25 : decode cX0_classFor 25 = .ok (.istore_n 2, 1) := by decide +kernel
theorem dX0_classFor_26 : decode cX0_classFor 26 = .ok (.aload_n 0, 1) := by decide +kernel
theorem dX0_classFor_27 : decode cX0_classFor 27 = .ok (.getfield 21, 3) := by decide +kernel
theorem dX0_classFor_30 : decode cX0_classFor 30 = .ok (.iload 4, 2) := by decide +kernel
theorem dX0_classFor_32 : decode cX0_classFor 32 = .ok (.iaload, 1) := by decide +kernel
theorem dX0_classFor_33 : decode cX0_classFor 33 = .ok (.aload_n 0, 1) := by decide +kernel
theorem dX0_classFor_34 : decode cX0_classFor 34 = .ok (.getfield 21, 3) := by decide +kernel
theorem dX0_classFor_37 : decode cX0_classFor 37 = .ok (.iload_n 1, 1) := by decide +kernel
theorem dX0_classFor_38 : decode cX0_classFor 38 = .ok (.iaload, 1) := by decide +kernel
theorem dX0_classFor_39 : decode cX0_classFor 39 = .ok (.if_icmp .gt 25, 3) := by decide +kernel
theorem dX0_classFor_42 : decode cX0_classFor 42 = .ok (.aload_n 0, 1) := by decide +kernel
theorem dX0_classFor_43 : decode cX0_classFor 43 = .ok (.getfield 21, 3) := by decide +kernel
theorem dX0_classFor_46 : decode cX0_classFor 46 = .ok (.iload 4, 2) := by decide +kernel
theorem dX0_classFor_48 : decode cX0_classFor 48 = .ok (.iaload, 1) := by decide +kernel
theorem dX0_classFor_49 : decode cX0_classFor 49 = .ok (.aload_n 0, 1) := by decide +kernel
theorem dX0_classFor_50 : decode cX0_classFor 50 = .ok (.getfield 21, 3) := by decide +kernel
theorem dX0_classFor_53 : decode cX0_classFor 53 = .ok (.iload_n 1, 1) := by decide +kernel
theorem dX0_classFor_54 : decode cX0_classFor 54 = .ok (.iaload, 1) := by decide +kernel
theorem dX0_classFor_55 : decode cX0_classFor 55 = .ok (.if_icmp .ne 19, 3) := by decide +kernel
theorem dX0_classFor_58 : decode cX0_classFor 58 = .ok (.iload 4, 2) := by decide +kernel
theorem dX0_classFor_60 : decode cX0_classFor 60 = .ok (.iload_n 1, 1) := by decide +kernel
theorem dX0_classFor_61 : decode cX0_classFor 61 = .ok (.if_icmp .ge 13, 3) := by decide +kernel
theorem dX0_classFor_64 : decode cX0_classFor 64 = .ok (.iload_n 3, 1) := by decide +kernel
theorem dX0_classFor_65 : decode cX0_classFor 65 = .ok (.aload_n 0, 1) := by decide +kernel
theorem dX0_classFor_66 : decode cX0_classFor 66 = .ok (.getfield 21, 3) := by decide +kernel
theorem dX0_classFor_69 : decode cX0_classFor 69 = .ok (.iload 4, 2) := by decide +kernel
theorem dX0_classFor_71 : decode cX0_classFor 71 = .ok (.iaload, 1) := by decide +kernel
theorem dX0_classFor_72 : decode cX0_classFor 72 = .ok (.iadd, 1) := by decide +kernel
theorem dX0_classFor_73 : decode cX0_classFor 73 = .ok (.istore_n 3, 1) := by decide +kernel
theorem dX0_classFor_74 : decode cX0_classFor 74 = .ok (.iinc 4 1, 3) := by decide +kernel
theorem dX0_classFor_77 : decode cX0_classFor 77 = .ok (.goto (-70), 3) := by decide +kernel
theorem dX0_classFor_80 : decode cX0_classFor 80 = .ok (.iload_n 3, 1) := by decide +kernel
theorem dX0_classFor_81 : decode cX0_classFor 81 = .ok (.bipush 100, 2) := by decide +kernel
theorem dX0_classFor_83 : decode cX0_classFor 83 = .ok (.imul, 1) := by decide +kernel
theorem dX0_classFor_84 : decode cX0_classFor 84 = .ok (.iload_n 2, 1) := by decide +kernel
theorem dX0_classFor_85 : decode cX0_classFor 85 = .ok (.bipush 80, 2) := by decide +kernel
theorem dX0_classFor_87 : decode cX0_classFor 87 = .ok (.imul, 1) := by decide +kernel
theorem dX0_classFor_88 : decode cX0_classFor 88 = .ok (.if_icmp .ge 5, 3) := by decide +kernel
theorem dX0_classFor_91 : decode cX0_classFor 91 = .ok (.iconst 0, 1) := by decide +kernel
theorem dX0_classFor_92 : decode cX0_classFor 92 = .ok (.ireturn, 1) := by decide +kernel
theorem dX0_classFor_93 : decode cX0_classFor 93 = .ok (.iload_n 3, 1) := by decide +kernel
theorem dX0_classFor_94 : decode cX0_classFor 94 = .ok (.bipush 100, 2) := by decide +kernel
theorem dX0_classFor_96 : decode cX0_classFor 96 = .ok (.imul, 1) := by decide +kernel
theorem dX0_classFor_97 : decode cX0_classFor 97 = .ok (.iload_n 2, 1) := by decide +kernel
theorem dX0_classFor_98 : decode cX0_classFor 98 = .ok (.bipush 95, 2) := by decide +kernel
theorem dX0_classFor_100 : decode cX0_classFor 100 = .ok (.imul, 1) := by decide +kernel
theorem dX0_classFor_101 : decode cX0_classFor 101 = .ok (.if_icmp .ge 7, 3) := by decide +kernel
theorem dX0_classFor_104 : decode cX0_classFor 104 = .ok (.iconst 1, 1) := by decide +kernel
theorem dX0_classFor_105 : decode cX0_classFor 105 = .ok (.goto 4, 3) := by decide +kernel
theorem dX0_classFor_108 : decode cX0_classFor 108 = .ok (.iconst 2, 1) := by decide +kernel
theorem dX0_classFor_109 : decode cX0_classFor 109 = .ok (.ireturn, 1) := by decide +kernel
theorem dX1_tell_0 : decode cX1_tell 0 = .ok (.iload_n 2, 1) := by decide +kernel
theorem dX1_tell_1 : decode cX1_tell 1 = .ok (.tableswitch 59 0 3 #[31, 38, 45, 52], 31) := by decide +kernel
theorem dX1_tell_32 : decode cX1_tell 32 = .ok (.aload_n 0, 1) := by decide +kernel
theorem dX1_tell_33 : decode cX1_tell 33 = .ok (.getfield 9, 3) := by decide +kernel
theorem dX1_tell_36 : decode cX1_tell 36 = .ok (.iload_n 1, 1) := by decide +kernel
theorem dX1_tell_37 : decode cX1_tell 37 = .ok (.iaload, 1) := by decide +kernel
theorem dX1_tell_38 : decode cX1_tell 38 = .ok (.ireturn, 1) := by decide +kernel
theorem dX1_tell_39 : decode cX1_tell 39 = .ok (.aload_n 0, 1) := by decide +kernel
theorem dX1_tell_40 : decode cX1_tell 40 = .ok (.getfield 15, 3) := by decide +kernel
theorem dX1_tell_43 : decode cX1_tell 43 = .ok (.iload_n 1, 1) := by decide +kernel
theorem dX1_tell_44 : decode cX1_tell 44 = .ok (.iaload, 1) := by decide +kernel
theorem dX1_tell_45 : decode cX1_tell 45 = .ok (.ireturn, 1) := by decide +kernel
theorem dX1_tell_46 : decode cX1_tell 46 = .ok (.aload_n 0, 1) := by decide +kernel
theorem dX1_tell_47 : decode cX1_tell 47 = .ok (.getfield 18, 3) := by decide +kernel
theorem dX1_tell_50 : decode cX1_tell 50 = .ok (.iload_n 1, 1) := by decide +kernel
theorem dX1_tell_51 : decode cX1_tell 51 = .ok (.iaload, 1) := by decide +kernel
theorem dX1_tell_52 : decode cX1_tell 52 = .ok (.ireturn, 1) := by decide +kernel
theorem dX1_tell_53 : decode cX1_tell 53 = .ok (.aload_n 0, 1) := by decide +kernel
theorem dX1_tell_54 : decode cX1_tell 54 = .ok (.getfield 21, 3) := by decide +kernel
theorem dX1_tell_57 : decode cX1_tell 57 = .ok (.iload_n 1, 1) := by decide +kernel
theorem dX1_tell_58 : decode cX1_tell 58 = .ok (.iaload, 1) := by decide +kernel
theorem dX1_tell_59 : decode cX1_tell 59 = .ok (.ireturn, 1) := by decide +kernel
theorem dX1_tell_60 : decode cX1_tell 60 = .ok (.aload_n 0, 1) := by decide +kernel
theorem dX1_tell_61 : decode cX1_tell 61 = .ok (.getfield 24, 3) := by decide +kernel
theorem dX1_tell_64 : decode cX1_tell 64 = .ok (.iload_n 1, 1) := by decide +kernel
theorem dX1_tell_65 : decode cX1_tell 65 = .ok (.iaload, 1) := by decide +kernel
theorem dX1_tell_66 : decode cX1_tell 66 = .ok (.ireturn, 1) := by decide +kernel
theorem dX1_firstFree_0 : decode cX1_firstFree 0 = .ok (.iconst (-1), 1) := by decide +kernel
theorem dX1_firstFree_1 : decode cX1_firstFree 1 = .ok (.istore 4, 2) := by decide +kernel
theorem dX1_firstFree_3 : decode cX1_firstFree 3 = .ok (.iconst 0, 1) := by decide +kernel
theorem dX1_firstFree_4 : decode cX1_firstFree 4 = .ok (.istore 5, 2) := by decide +kernel
theorem dX1_firstFree_6 : decode cX1_firstFree 6 = .ok (.iload 5, 2) := by decide +kernel
theorem dX1_firstFree_8 : decode cX1_firstFree 8 = .ok (.aload_n 0, 1) := by decide +kernel
theorem dX1_firstFree_9 : decode cX1_firstFree 9 = .ok (.getfield 27, 3) := by decide +kernel
theorem dX1_firstFree_12 : decode cX1_firstFree 12 = .ok (.if_icmp .ge 78, 3) := by decide +kernel
theorem dX1_firstFree_15 : decode cX1_firstFree 15 = .ok (.aload_n 0, 1) := by decide +kernel
theorem dX1_firstFree_16 : decode cX1_firstFree 16 = .ok (.getfield 9, 3) := by decide +kernel
theorem dX1_firstFree_19 : decode cX1_firstFree 19 = .ok (.iload 5, 2) := by decide +kernel
theorem dX1_firstFree_21 : decode cX1_firstFree 21 = .ok (.iaload, 1) := by decide +kernel
theorem dX1_firstFree_22 : decode cX1_firstFree 22 = .ok (.iload_n 1, 1) := by decide +kernel
theorem dX1_firstFree_23 : decode cX1_firstFree 23 = .ok (.if_icmp .ne 61, 3) := by decide +kernel
theorem dX1_firstFree_26 : decode cX1_firstFree 26 = .ok (.aload_n 0, 1) := by decide +kernel
theorem dX1_firstFree_27 : decode cX1_firstFree 27 = .ok (.getfield 15, 3) := by decide +kernel
theorem dX1_firstFree_30 : decode cX1_firstFree 30 = .ok (.iload 5, 2) := by decide +kernel
theorem dX1_firstFree_32 : decode cX1_firstFree 32 = .ok (.iaload, 1) := by decide +kernel
theorem dX1_firstFree_33 : decode cX1_firstFree 33 = .ok (.iload_n 2, 1) := by decide +kernel
theorem dX1_firstFree_34 : decode cX1_firstFree 34 = .ok (.if_icmp .ne 50, 3) := by decide +kernel
theorem dX1_firstFree_37 : decode cX1_firstFree 37 = .ok (.aload_n 0, 1) := by decide +kernel
theorem dX1_firstFree_38 : decode cX1_firstFree 38 = .ok (.getfield 24, 3) := by decide +kernel
theorem dX1_firstFree_41 : decode cX1_firstFree 41 = .ok (.iload 5, 2) := by decide +kernel
theorem dX1_firstFree_43 : decode cX1_firstFree 43 = .ok (.iaload, 1) := by decide +kernel
theorem dX1_firstFree_44 : decode cX1_firstFree 44 = .ok (.iload_n 3, 1) := by decide +kernel
theorem dX1_firstFree_45 : decode cX1_firstFree 45 = .ok (.if_icmp .lt 39, 3) := by decide +kernel
theorem dX1_firstFree_48 : decode cX1_firstFree 48 = .ok (.aload_n 0, 1) := by decide +kernel
theorem dX1_firstFree_49 : decode cX1_firstFree 49 = .ok (.iload 5, 2) := by decide +kernel
theorem dX1_firstFree_51 : decode cX1_firstFree 51 = .ok (.invokevirtual 39, 3) := by decide +kernel
theorem dX1_firstFree_54 : decode cX1_firstFree 54 = .ok (.ifCond .le 30, 3) := by decide +kernel
theorem dX1_firstFree_57 : decode cX1_firstFree 57 = .ok (.iload 4, 2) := by decide +kernel
theorem dX1_firstFree_59 : decode cX1_firstFree 59 = .ok (.iconst (-1), 1) := by decide +kernel
theorem dX1_firstFree_60 : decode cX1_firstFree 60 = .ok (.if_icmp .eq 20, 3) := by decide +kernel
theorem dX1_firstFree_63 : decode cX1_firstFree 63 = .ok (.aload_n 0, 1) := by decide +kernel
theorem dX1_firstFree_64 : decode cX1_firstFree 64 = .ok (.getfield 24, 3) := by decide +kernel
theorem dX1_firstFree_67 : decode cX1_firstFree 67 = .ok (.iload 5, 2) := by decide +kernel
theorem dX1_firstFree_69 : decode cX1_firstFree 69 = .ok (.iaload, 1) := by decide +kernel
theorem dX1_firstFree_70 : decode cX1_firstFree 70 = .ok (.aload_n 0, 1) := by decide +kernel
theorem dX1_firstFree_71 : decode cX1_firstFree 71 = .ok (.getfield 24, 3) := by decide +kernel
theorem dX1_firstFree_74 : decode cX1_firstFree 74 = .ok (.iload 4, 2) := by decide +kernel
theorem dX1_firstFree_76 : decode cX1_firstFree 76 = .ok (.iaload, 1) := by decide +kernel
theorem dX1_firstFree_77 : decode cX1_firstFree 77 = .ok (.if_icmp .ge 7, 3) := by decide +kernel
theorem dX1_firstFree_80 : decode cX1_firstFree 80 = .ok (.iload 5, 2) := by decide +kernel
theorem dX1_firstFree_82 : decode cX1_firstFree 82 = .ok (.istore 4, 2) := by decide +kernel
theorem dX1_firstFree_84 : decode cX1_firstFree 84 = .ok (.iinc 5 1, 3) := by decide +kernel
theorem dX1_firstFree_87 : decode cX1_firstFree 87 = .ok (.goto (-81), 3) := by decide +kernel
theorem dX1_firstFree_90 : decode cX1_firstFree 90 = .ok (.iload 4, 2) := by decide +kernel
theorem dX1_firstFree_92 : decode cX1_firstFree 92 = .ok (.ireturn, 1) := by decide +kernel
theorem dX2_tell_0 : decode cX2_tell 0 = .ok (.iload_n 2, 1) := by decide +kernel
theorem dX2_tell_1 : decode cX2_tell 1 = .ok (.tableswitch 59 0 3 #[31, 38, 45, 52], 31) := by decide +kernel
theorem dX2_tell_32 : decode cX2_tell 32 = .ok (.aload_n 0, 1) := by decide +kernel
theorem dX2_tell_33 : decode cX2_tell 33 = .ok (.getfield 33, 3) := by decide +kernel
theorem dX2_tell_36 : decode cX2_tell 36 = .ok (.iload_n 1, 1) := by decide +kernel
theorem dX2_tell_37 : decode cX2_tell 37 = .ok (.iaload, 1) := by decide +kernel
theorem dX2_tell_38 : decode cX2_tell 38 = .ok (.ireturn, 1) := by decide +kernel
theorem dX2_tell_39 : decode cX2_tell 39 = .ok (.aload_n 0, 1) := by decide +kernel
theorem dX2_tell_40 : decode cX2_tell 40 = .ok (.getfield 18, 3) := by decide +kernel
theorem dX2_tell_43 : decode cX2_tell 43 = .ok (.iload_n 1, 1) := by decide +kernel
theorem dX2_tell_44 : decode cX2_tell 44 = .ok (.iaload, 1) := by decide +kernel
theorem dX2_tell_45 : decode cX2_tell 45 = .ok (.ireturn, 1) := by decide +kernel
theorem dX2_tell_46 : decode cX2_tell 46 = .ok (.aload_n 0, 1) := by decide +kernel
theorem dX2_tell_47 : decode cX2_tell 47 = .ok (.getfield 21, 3) := by decide +kernel
theorem dX2_tell_50 : decode cX2_tell 50 = .ok (.iload_n 1, 1) := by decide +kernel
theorem dX2_tell_51 : decode cX2_tell 51 = .ok (.iaload, 1) := by decide +kernel
theorem dX2_tell_52 : decode cX2_tell 52 = .ok (.ireturn, 1) := by decide +kernel
theorem dX2_tell_53 : decode cX2_tell 53 = .ok (.aload_n 0, 1) := by decide +kernel
theorem dX2_tell_54 : decode cX2_tell 54 = .ok (.getfield 24, 3) := by decide +kernel
theorem dX2_tell_57 : decode cX2_tell 57 = .ok (.iload_n 1, 1) := by decide +kernel
theorem dX2_tell_58 : decode cX2_tell 58 = .ok (.iaload, 1) := by decide +kernel
theorem dX2_tell_59 : decode cX2_tell 59 = .ok (.ireturn, 1) := by decide +kernel
theorem dX2_tell_60 : decode cX2_tell 60 = .ok (.aload_n 0, 1) := by decide +kernel
theorem dX2_tell_61 : decode cX2_tell 61 = .ok (.getfield 36, 3) := by decide +kernel
theorem dX2_tell_64 : decode cX2_tell 64 = .ok (.iload_n 1, 1) := by decide +kernel
theorem dX2_tell_65 : decode cX2_tell 65 = .ok (.iaload, 1) := by decide +kernel
theorem dX2_tell_66 : decode cX2_tell 66 = .ok (.ireturn, 1) := by decide +kernel
theorem dX4_stands_0 : decode cX4_stands 0 = .ok (.aload_n 0, 1) := by decide +kernel
theorem dX4_stands_1 : decode cX4_stands 1 = .ok (.getfield 11, 3) := by decide +kernel
theorem dX4_stands_4 : decode cX4_stands 4 = .ok (.iload_n 1, 1) := by decide +kernel
theorem dX4_stands_5 : decode cX4_stands 5 = .ok (.iload_n 2, 1) := by decide +kernel
theorem dX4_stands_6 : decode cX4_stands 6 = .ok (.invokestatic 28, 3) := by decide +kernel
theorem dX4_stands_9 : decode cX4_stands 9 = .ok (.baload, 1) := by decide +kernel
theorem dX4_stands_10 : decode cX4_stands 10 = .ok (.ireturn, 1) := by decide +kernel
theorem dX5_daysBetween_0 : decode cX5_daysBetween 0 = .ok (.aload_n 0, 1) := by decide +kernel
theorem dX5_daysBetween_1 : decode cX5_daysBetween 1 = .ok (.iload_n 1, 1) := by decide +kernel
theorem dX5_daysBetween_2 : decode cX5_daysBetween 2 = .ok (.invokevirtual 22, 3) := by decide +kernel
theorem dX5_daysBetween_5 : decode cX5_daysBetween 5 = .ok (.ifCond .eq 24, 3) := by decide +kernel
theorem dX5_daysBetween_8 : decode cX5_daysBetween 8 = .ok (.aload_n 0, 1) := by decide +kernel
theorem dX5_daysBetween_9 : decode cX5_daysBetween 9 = .ok (.iload_n 2, 1) := by decide +kernel
theorem dX5_daysBetween_10 : decode cX5_daysBetween 10 = .ok (.invokevirtual 22, 3) := by decide +kernel
theorem dX5_daysBetween_13 : decode cX5_daysBetween 13 = .ok (.ifCond .eq 16, 3) := by decide +kernel
theorem dX5_daysBetween_16 : decode cX5_daysBetween 16 = .ok (.aload_n 0, 1) := by decide +kernel
theorem dX5_daysBetween_17 : decode cX5_daysBetween 17 = .ok (.getfield 15, 3) := by decide +kernel
theorem dX5_daysBetween_20 : decode cX5_daysBetween 20 = .ok (.iload_n 1, 1) := by decide +kernel
theorem dX5_daysBetween_21 : decode cX5_daysBetween 21 = .ok (.iload_n 2, 1) := by decide +kernel
theorem dX5_daysBetween_22 : decode cX5_daysBetween 22 = .ok (.invokestatic 26, 3) := by decide +kernel
theorem dX5_daysBetween_25 : decode cX5_daysBetween 25 = .ok (.iaload, 1) := by decide +kernel
theorem dX5_daysBetween_26 : decode cX5_daysBetween 26 = .ok (.goto 4, 3) := by decide +kernel
theorem dX5_daysBetween_29 : decode cX5_daysBetween 29 = .ok (.iconst 0, 1) := by decide +kernel
theorem dX5_daysBetween_30 : decode cX5_daysBetween 30 = .ok (.ireturn, 1) := by decide +kernel
theorem dX6_roomAt_0 : decode cX6_roomAt 0 = .ok (.aload_n 0, 1) := by decide +kernel
theorem dX6_roomAt_1 : decode cX6_roomAt 1 = .ok (.getfield 21, 3) := by decide +kernel
theorem dX6_roomAt_4 : decode cX6_roomAt 4 = .ok (.iload_n 1, 1) := by decide +kernel
theorem dX6_roomAt_5 : decode cX6_roomAt 5 = .ok (.invokevirtual 89, 3) := by decide +kernel
theorem dX6_roomAt_8 : decode cX6_roomAt 8 = .ok (.ifCond .eq 24, 3) := by decide +kernel
theorem dX6_roomAt_11 : decode cX6_roomAt 11 = .ok (.aload_n 0, 1) := by decide +kernel
theorem dX6_roomAt_12 : decode cX6_roomAt 12 = .ok (.getfield 21, 3) := by decide +kernel
theorem dX6_roomAt_15 : decode cX6_roomAt 15 = .ok (.getfield 93, 3) := by decide +kernel
theorem dX6_roomAt_18 : decode cX6_roomAt 18 = .ok (.iload_n 1, 1) := by decide +kernel
theorem dX6_roomAt_19 : decode cX6_roomAt 19 = .ok (.iaload, 1) := by decide +kernel
theorem dX6_roomAt_20 : decode cX6_roomAt 20 = .ok (.aload_n 0, 1) := by decide +kernel
theorem dX6_roomAt_21 : decode cX6_roomAt 21 = .ok (.getfield 35, 3) := by decide +kernel
theorem dX6_roomAt_24 : decode cX6_roomAt 24 = .ok (.iload_n 1, 1) := by decide +kernel
theorem dX6_roomAt_25 : decode cX6_roomAt 25 = .ok (.invokevirtual 96, 3) := by decide +kernel
theorem dX6_roomAt_28 : decode cX6_roomAt 28 = .ok (.isub, 1) := by decide +kernel
theorem dX6_roomAt_29 : decode cX6_roomAt 29 = .ok (.goto 4, 3) := by decide +kernel
theorem dX6_roomAt_32 : decode cX6_roomAt 32 = .ok (.iconst 0, 1) := by decide +kernel
theorem dX6_roomAt_33 : decode cX6_roomAt 33 = .ok (.ireturn, 1) := by decide +kernel
theorem dX6_positionAt_0 : decode cX6_positionAt 0 = .ok (.aload_n 0, 1) := by decide +kernel
theorem dX6_positionAt_1 : decode cX6_positionAt 1 = .ok (.getfield 35, 3) := by decide +kernel
theorem dX6_positionAt_4 : decode cX6_positionAt 4 = .ok (.iload_n 1, 1) := by decide +kernel
theorem dX6_positionAt_5 : decode cX6_positionAt 5 = .ok (.iload_n 2, 1) := by decide +kernel
theorem dX6_positionAt_6 : decode cX6_positionAt 6 = .ok (.invokevirtual 100, 3) := by decide +kernel
theorem dX6_positionAt_9 : decode cX6_positionAt 9 = .ok (.aload_n 0, 1) := by decide +kernel
theorem dX6_positionAt_10 : decode cX6_positionAt 10 = .ok (.getfield 49, 3) := by decide +kernel
theorem dX6_positionAt_13 : decode cX6_positionAt 13 = .ok (.iload_n 1, 1) := by decide +kernel
theorem dX6_positionAt_14 : decode cX6_positionAt 14 = .ok (.iload_n 2, 1) := by decide +kernel
theorem dX6_positionAt_15 : decode cX6_positionAt 15 = .ok (.invokevirtual 104, 3) := by decide +kernel
theorem dX6_positionAt_18 : decode cX6_positionAt 18 = .ok (.iadd, 1) := by decide +kernel
theorem dX6_positionAt_19 : decode cX6_positionAt 19 = .ok (.aload_n 0, 1) := by decide +kernel
theorem dX6_positionAt_20 : decode cX6_positionAt 20 = .ok (.getfield 42, 3) := by decide +kernel
theorem dX6_positionAt_23 : decode cX6_positionAt 23 = .ok (.iload_n 1, 1) := by decide +kernel
theorem dX6_positionAt_24 : decode cX6_positionAt 24 = .ok (.iload_n 2, 1) := by decide +kernel
theorem dX6_positionAt_25 : decode cX6_positionAt 25 = .ok (.invokevirtual 107, 3) := by decide +kernel
theorem dX6_positionAt_28 : decode cX6_positionAt 28 = .ok (.isub, 1) := by decide +kernel
theorem dX6_positionAt_29 : decode cX6_positionAt 29 = .ok (.ireturn, 1) := by decide +kernel
theorem dX6_lackAt_0 : decode cX6_lackAt 0 = .ok (.aload_n 0, 1) := by decide +kernel
theorem dX6_lackAt_1 : decode cX6_lackAt 1 = .ok (.getfield 28, 3) := by decide +kernel
theorem dX6_lackAt_4 : decode cX6_lackAt 4 = .ok (.iload_n 1, 1) := by decide +kernel
theorem dX6_lackAt_5 : decode cX6_lackAt 5 = .ok (.iload_n 2, 1) := by decide +kernel
theorem dX6_lackAt_6 : decode cX6_lackAt 6 = .ok (.invokevirtual 110, 3) := by decide +kernel
theorem dX6_lackAt_9 : decode cX6_lackAt 9 = .ok (.ifCond .ne 5, 3) := by decide +kernel
theorem dX6_lackAt_12 : decode cX6_lackAt 12 = .ok (.iconst 0, 1) := by decide +kernel
theorem dX6_lackAt_13 : decode cX6_lackAt 13 = .ok (.ireturn, 1) := by decide +kernel
theorem dX6_lackAt_14 : decode cX6_lackAt 14 = .ok (.iconst 0, 1) := by decide +kernel
theorem dX6_lackAt_15 : decode cX6_lackAt 15 = .ok (.aload_n 0, 1) := by decide +kernel
theorem dX6_lackAt_16 : decode cX6_lackAt 16 = .ok (.getfield 28, 3) := by decide +kernel
theorem dX6_lackAt_19 : decode cX6_lackAt 19 = .ok (.getfield 114, 3) := by decide +kernel
theorem dX6_lackAt_22 : decode cX6_lackAt 22 = .ok (.iload_n 1, 1) := by decide +kernel
theorem dX6_lackAt_23 : decode cX6_lackAt 23 = .ok (.iload_n 2, 1) := by decide +kernel
theorem dX6_lackAt_24 : decode cX6_lackAt 24 = .ok (.invokestatic 117, 3) := by decide +kernel
theorem dX6_lackAt_27 : decode cX6_lackAt 27 = .ok (.iaload, 1) := by decide +kernel
theorem dX6_lackAt_28 : decode cX6_lackAt 28 = .ok (.aload_n 0, 1) := by decide +kernel
theorem dX6_lackAt_29 : decode cX6_lackAt 29 = .ok (.iload_n 1, 1) := by decide +kernel
theorem dX6_lackAt_30 : decode cX6_lackAt 30 = .ok (.iload_n 2, 1) := by decide +kernel
theorem dX6_lackAt_31 : decode cX6_lackAt 31 = .ok (.invokevirtual 120, 3) := by decide +kernel
theorem dX6_lackAt_34 : decode cX6_lackAt 34 = .ok (.isub, 1) := by decide +kernel
theorem dX6_lackAt_35 : decode cX6_lackAt 35 = .ok (.invokestatic 123, 3) := by decide +kernel
theorem dX6_lackAt_38 : decode cX6_lackAt 38 = .ok (.ireturn, 1) := by decide +kernel
theorem dX6_spareAt_0 : decode cX6_spareAt 0 = .ok (.aload_n 0, 1) := by decide +kernel
theorem dX6_spareAt_1 : decode cX6_spareAt 1 = .ok (.getfield 28, 3) := by decide +kernel
theorem dX6_spareAt_4 : decode cX6_spareAt 4 = .ok (.iload_n 1, 1) := by decide +kernel
theorem dX6_spareAt_5 : decode cX6_spareAt 5 = .ok (.iload_n 2, 1) := by decide +kernel
theorem dX6_spareAt_6 : decode cX6_spareAt 6 = .ok (.invokevirtual 110, 3) := by decide +kernel
theorem dX6_spareAt_9 : decode cX6_spareAt 9 = .ok (.ifCond .ne 5, 3) := by decide +kernel
theorem dX6_spareAt_12 : decode cX6_spareAt 12 = .ok (.iconst 0, 1) := by decide +kernel
theorem dX6_spareAt_13 : decode cX6_spareAt 13 = .ok (.ireturn, 1) := by decide +kernel
theorem dX6_spareAt_14 : decode cX6_spareAt 14 = .ok (.aload_n 0, 1) := by decide +kernel
theorem dX6_spareAt_15 : decode cX6_spareAt 15 = .ok (.iload_n 1, 1) := by decide +kernel
theorem dX6_spareAt_16 : decode cX6_spareAt 16 = .ok (.iload_n 2, 1) := by decide +kernel
theorem dX6_spareAt_17 : decode cX6_spareAt 17 = .ok (.invokevirtual 120, 3) := by decide +kernel
theorem dX6_spareAt_20 : decode cX6_spareAt 20 = .ok (.aload_n 0, 1) := by decide +kernel
theorem dX6_spareAt_21 : decode cX6_spareAt 21 = .ok (.getfield 28, 3) := by decide +kernel
theorem dX6_spareAt_24 : decode cX6_spareAt 24 = .ok (.getfield 128, 3) := by decide +kernel
theorem dX6_spareAt_27 : decode cX6_spareAt 27 = .ok (.iload_n 1, 1) := by decide +kernel
theorem dX6_spareAt_28 : decode cX6_spareAt 28 = .ok (.iload_n 2, 1) := by decide +kernel
theorem dX6_spareAt_29 : decode cX6_spareAt 29 = .ok (.invokestatic 117, 3) := by decide +kernel
theorem dX6_spareAt_32 : decode cX6_spareAt 32 = .ok (.iaload, 1) := by decide +kernel
theorem dX6_spareAt_33 : decode cX6_spareAt 33 = .ok (.isub, 1) := by decide +kernel
theorem dX6_spareAt_34 : decode cX6_spareAt 34 = .ok (.istore_n 3, 1) := by decide +kernel
theorem dX6_spareAt_35 : decode cX6_spareAt 35 = .ok (.iconst 0, 1) := by decide +kernel
theorem dX6_spareAt_36 : decode cX6_spareAt 36 = .ok (.iload_n 3, 1) := by decide +kernel
theorem dX6_spareAt_37 : decode cX6_spareAt 37 = .ok (.aload_n 0, 1) := by decide +kernel
theorem dX6_spareAt_38 : decode cX6_spareAt 38 = .ok (.getfield 35, 3) := by decide +kernel
theorem dX6_spareAt_41 : decode cX6_spareAt 41 = .ok (.iload_n 1, 1) := by decide +kernel
theorem dX6_spareAt_42 : decode cX6_spareAt 42 = .ok (.iload_n 2, 1) := by decide +kernel
theorem dX6_spareAt_43 : decode cX6_spareAt 43 = .ok (.invokevirtual 131, 3) := by decide +kernel
theorem dX6_spareAt_46 : decode cX6_spareAt 46 = .ok (.invokestatic 134, 3) := by decide +kernel
theorem dX6_spareAt_49 : decode cX6_spareAt 49 = .ok (.invokestatic 123, 3) := by decide +kernel
theorem dX6_spareAt_52 : decode cX6_spareAt 52 = .ok (.ireturn, 1) := by decide +kernel
theorem dX6_rateOver_0 : decode cX6_rateOver 0 = .ok (.aload_n 0, 1) := by decide +kernel
theorem dX6_rateOver_1 : decode cX6_rateOver 1 = .ok (.getfield 42, 3) := by decide +kernel
theorem dX6_rateOver_4 : decode cX6_rateOver 4 = .ok (.iload_n 1, 1) := by decide +kernel
theorem dX6_rateOver_5 : decode cX6_rateOver 5 = .ok (.iload_n 2, 1) := by decide +kernel
theorem dX6_rateOver_6 : decode cX6_rateOver 6 = .ok (.aload_n 0, 1) := by decide +kernel
theorem dX6_rateOver_7 : decode cX6_rateOver 7 = .ok (.getfield 60, 3) := by decide +kernel
theorem dX6_rateOver_10 : decode cX6_rateOver 10 = .ok (.iload_n 3, 1) := by decide +kernel
theorem dX6_rateOver_11 : decode cX6_rateOver 11 = .ok (.isub, 1) := by decide +kernel
theorem dX6_rateOver_12 : decode cX6_rateOver 12 = .ok (.iconst 1, 1) := by decide +kernel
theorem dX6_rateOver_13 : decode cX6_rateOver 13 = .ok (.iadd, 1) := by decide +kernel
theorem dX6_rateOver_14 : decode cX6_rateOver 14 = .ok (.aload_n 0, 1) := by decide +kernel
theorem dX6_rateOver_15 : decode cX6_rateOver 15 = .ok (.getfield 60, 3) := by decide +kernel
theorem dX6_rateOver_18 : decode cX6_rateOver 18 = .ok (.invokevirtual 137, 3) := by decide +kernel
theorem dX6_rateOver_21 : decode cX6_rateOver 21 = .ok (.ireturn, 1) := by decide +kernel
theorem dX7_tell_0 : decode cX7_tell 0 = .ok (.iload_n 2, 1) := by decide +kernel
theorem dX7_tell_1 : decode cX7_tell 1 = .ok (.tableswitch 70 0 4 #[35, 42, 49, 56, 63], 35) := by decide +kernel
theorem dX7_tell_36 : decode cX7_tell 36 = .ok (.aload_n 0, 1) := by decide +kernel
theorem dX7_tell_37 : decode cX7_tell 37 = .ok (.getfield 9, 3) := by decide +kernel
theorem dX7_tell_40 : decode cX7_tell 40 = .ok (.iload_n 1, 1) := by decide +kernel
theorem dX7_tell_41 : decode cX7_tell 41 = .ok (.iaload, 1) := by decide +kernel
theorem dX7_tell_42 : decode cX7_tell 42 = .ok (.ireturn, 1) := by decide +kernel
theorem dX7_tell_43 : decode cX7_tell 43 = .ok (.aload_n 0, 1) := by decide +kernel
theorem dX7_tell_44 : decode cX7_tell 44 = .ok (.getfield 15, 3) := by decide +kernel
theorem dX7_tell_47 : decode cX7_tell 47 = .ok (.iload_n 1, 1) := by decide +kernel
theorem dX7_tell_48 : decode cX7_tell 48 = .ok (.iaload, 1) := by decide +kernel
theorem dX7_tell_49 : decode cX7_tell 49 = .ok (.ireturn, 1) := by decide +kernel
theorem dX7_tell_50 : decode cX7_tell 50 = .ok (.aload_n 0, 1) := by decide +kernel
theorem dX7_tell_51 : decode cX7_tell 51 = .ok (.getfield 18, 3) := by decide +kernel
theorem dX7_tell_54 : decode cX7_tell 54 = .ok (.iload_n 1, 1) := by decide +kernel
theorem dX7_tell_55 : decode cX7_tell 55 = .ok (.iaload, 1) := by decide +kernel
theorem dX7_tell_56 : decode cX7_tell 56 = .ok (.ireturn, 1) := by decide +kernel
theorem dX7_tell_57 : decode cX7_tell 57 = .ok (.aload_n 0, 1) := by decide +kernel
theorem dX7_tell_58 : decode cX7_tell 58 = .ok (.getfield 21, 3) := by decide +kernel
theorem dX7_tell_61 : decode cX7_tell 61 = .ok (.iload_n 1, 1) := by decide +kernel
theorem dX7_tell_62 : decode cX7_tell 62 = .ok (.iaload, 1) := by decide +kernel
theorem dX7_tell_63 : decode cX7_tell 63 = .ok (.ireturn, 1) := by decide +kernel
theorem dX7_tell_64 : decode cX7_tell 64 = .ok (.aload_n 0, 1) := by decide +kernel
theorem dX7_tell_65 : decode cX7_tell 65 = .ok (.getfield 24, 3) := by decide +kernel
theorem dX7_tell_68 : decode cX7_tell 68 = .ok (.iload_n 1, 1) := by decide +kernel
theorem dX7_tell_69 : decode cX7_tell 69 = .ok (.iaload, 1) := by decide +kernel
theorem dX7_tell_70 : decode cX7_tell 70 = .ok (.ireturn, 1) := by decide +kernel
theorem dX7_tell_71 : decode cX7_tell 71 = .ok (.aload_n 0, 1) := by decide +kernel
theorem dX7_tell_72 : decode cX7_tell 72 = .ok (.getfield 27, 3) := by decide +kernel
theorem dX7_tell_75 : decode cX7_tell 75 = .ok (.iload_n 1, 1) := by decide +kernel
theorem dX7_tell_76 : decode cX7_tell 76 = .ok (.iaload, 1) := by decide +kernel
theorem dX7_tell_77 : decode cX7_tell 77 = .ok (.ireturn, 1) := by decide +kernel
end
section
set_option maxRecDepth 20000 in
theorem ggX0_priceOf_X0_has : GoodIn wsX0_priceOf wsX0_has := goodIn_q _ [6] [7, 8, 9, 10, 11, 12] rfl (by decide +kernel) (by decide +kernel)
set_option maxRecDepth 20000 in
theorem gX0_priceOf_X0_has : GoodIn wsX0_priceOf (wsV RX0 28 RX0 yX0_has wsX0_has) := goodIn_app (goodIn_of _ (by decide +kernel)) ggX0_priceOf_X0_has
set_option maxRecDepth 20000 in
theorem ggX0_inPacks_X0_has : GoodIn wsX0_inPacks wsX0_has := goodIn_q _ [6] [7, 8, 9, 10, 11, 12] rfl (by decide +kernel) (by decide +kernel)
set_option maxRecDepth 20000 in
theorem gX0_inPacks_X0_has : GoodIn wsX0_inPacks (wsV RX0 28 RX0 yX0_has wsX0_has) := goodIn_app (goodIn_of _ (by decide +kernel)) ggX0_inPacks_X0_has
set_option maxRecDepth 20000 in
theorem ggX1_firstFree_X1_freeOf : GoodIn wsX1_firstFree wsX1_freeOf := goodIn_q _ [9] [10, 11, 12, 13, 14, 15, 16, 17] rfl (by decide +kernel) (by decide +kernel)
set_option maxRecDepth 20000 in
theorem gX1_firstFree_X1_freeOf : GoodIn wsX1_firstFree (wsV RX1 39 RX1 yX1_freeOf wsX1_freeOf) := goodIn_app (goodIn_of _ (by decide +kernel)) ggX1_firstFree_X1_freeOf
set_option maxRecDepth 20000 in
theorem ggX4_stands_X8_pair : GoodIn wsX4_stands wsX8_pair := goodIn_q _ [4] [] rfl (by decide +kernel) (by decide +kernel)
set_option maxRecDepth 20000 in
theorem gX4_stands_X8_pair_n28 : GoodIn wsX4_stands (wsX8_pair) := ggX4_stands_X8_pair
set_option maxRecDepth 20000 in
theorem ggX5_daysBetween_X5_has : GoodIn wsX5_daysBetween wsX5_has := goodIn_q _ [6] [7, 11, 12, 13] rfl (by decide +kernel) (by decide +kernel)
set_option maxRecDepth 20000 in
theorem gX5_daysBetween_X5_has : GoodIn wsX5_daysBetween (wsV RX5 22 RX5 yX5_has wsX5_has) := goodIn_app (goodIn_of _ (by decide +kernel)) ggX5_daysBetween_X5_has
set_option maxRecDepth 20000 in
theorem ggX5_daysBetween_X8_pair : GoodIn wsX5_daysBetween wsX8_pair := goodIn_q _ [10] [] rfl (by decide +kernel) (by decide +kernel)
set_option maxRecDepth 20000 in
theorem gX5_daysBetween_X8_pair_n26 : GoodIn wsX5_daysBetween (wsX8_pair) := ggX5_daysBetween_X8_pair
set_option maxRecDepth 20000 in
theorem ggX6_roomAt_X5_has : GoodIn wsX6_roomAt wsX5_has := goodIn_q _ [8] [9, 27, 28, 29] rfl (by decide +kernel) (by decide +kernel)
set_option maxRecDepth 20000 in
theorem gX6_roomAt_X5_has : GoodIn wsX6_roomAt (wsV RX6 89 RX5 yX5_has wsX5_has) := goodIn_app (goodIn_of _ (by decide +kernel)) ggX6_roomAt_X5_has
set_option maxRecDepth 20000 in
theorem ggX6_roomAt_X1_allUnitsAt : GoodIn wsX6_roomAt wsX1_allUnitsAt := goodIn_q _ [14] [15, 16, 17, 30, 31, 32, 33, 34, 35] rfl (by decide +kernel) (by decide +kernel)
set_option maxRecDepth 20000 in
theorem gX6_roomAt_X1_allUnitsAt : GoodIn wsX6_roomAt (wsV RX6 96 RX1 yX1_allUnitsAt wsX1_allUnitsAt) := goodIn_app (goodIn_of _ (by decide +kernel)) ggX6_roomAt_X1_allUnitsAt
set_option maxRecDepth 20000 in
theorem ggX6_positionAt_X1_unitsAt : GoodIn wsX6_positionAt wsX1_unitsAt := goodIn_q _ [8, 13] [9, 10, 11, 12, 7, 14, 15, 16, 17, 18, 52, 53, 54, 55, 56, 57] rfl (by decide +kernel) (by decide +kernel)
set_option maxRecDepth 20000 in
theorem gX6_positionAt_X1_unitsAt : GoodIn wsX6_positionAt (wsV RX6 100 RX1 yX1_unitsAt wsX1_unitsAt) := goodIn_app (goodIn_of _ (by decide +kernel)) ggX6_positionAt_X1_unitsAt
set_option maxRecDepth 20000 in
theorem ggX6_positionAt_X7_unitsTo : GoodIn wsX6_positionAt wsX7_unitsTo := goodIn_q _ [23] [24, 25, 26, 27, 28, 58, 59, 60, 61, 62, 63, 64] rfl (by decide +kernel) (by decide +kernel)
set_option maxRecDepth 20000 in
theorem gX6_positionAt_X7_unitsTo : GoodIn wsX6_positionAt (wsV RX6 104 RX7 yX7_unitsTo wsX7_unitsTo) := goodIn_app (goodIn_of _ (by decide +kernel)) ggX6_positionAt_X7_unitsTo
set_option maxRecDepth 20000 in
theorem ggX6_positionAt_X2_openUnitsFrom : GoodIn wsX6_positionAt wsX2_openUnitsFrom := goodIn_q _ [33, 40] [34, 35, 36, 37, 38, 39, 32, 41, 42, 65, 66, 67, 68, 69, 70, 71, 72, 73, 74, 75] rfl (by decide +kernel) (by decide +kernel)
set_option maxRecDepth 20000 in
theorem gX6_positionAt_X2_openUnitsFrom : GoodIn wsX6_positionAt (wsV RX6 107 RX2 yX2_openUnitsFrom wsX2_openUnitsFrom) := goodIn_app (goodIn_of _ (by decide +kernel)) ggX6_positionAt_X2_openUnitsFrom
set_option maxRecDepth 20000 in
theorem ggX6_lackAt_X4_stands : GoodIn wsX6_lackAt wsX4_stands := goodIn_q _ [11, 15] [12, 13, 14, 72, 73, 74, 75, 76] rfl (by decide +kernel) (by decide +kernel)
set_option maxRecDepth 20000 in
theorem gX6_lackAt_X4_stands : GoodIn wsX6_lackAt (wsV RX6 110 RX4 yX4_stands wsX4_stands) := goodIn_app (goodIn_of _ (by decide +kernel)) ggX6_lackAt_X4_stands
set_option maxRecDepth 20000 in
theorem ggX6_lackAt_X8_pair : GoodIn wsX6_lackAt wsX8_pair := goodIn_q _ [15] [] rfl (by decide +kernel) (by decide +kernel)
set_option maxRecDepth 20000 in
theorem gX6_lackAt_X8_pair_n117 : GoodIn wsX6_lackAt (wsX8_pair) := ggX6_lackAt_X8_pair
set_option maxRecDepth 20000 in
theorem ggX6_lackAt_X6_positionAt : GoodIn wsX6_lackAt wsX6_positionAt := goodIn_q _ [20, 28, 33, 43, 53, 60] [21, 22, 23, 24, 25, 26, 27, 29, 30, 31, 32, 34, 35, 36, 37, 38, 39, 40, 41, 42, 44, 45, 46, 47, 48, 49, 50, 51, 52, 54, 55, 56, 57, 58, 59, 61, 62, 63, 64, 65, 66, 67, 68, 69, 70, 71, 77, 78, 79, 80, 81, 82, 83, 84, 85, 86, 87, 88, 89, 90, 91, 92, 93, 94, 95, 96, 97, 98, 99, 100] rfl (by decide +kernel) (by decide +kernel)
set_option maxRecDepth 20000 in
theorem gX6_lackAt_X6_positionAt : GoodIn wsX6_lackAt (wsV RX6 120 RX6 yX6_positionAt wsX6_positionAt) := goodIn_app (goodIn_of _ (by decide +kernel)) ggX6_lackAt_X6_positionAt
set_option maxRecDepth 20000 in
theorem ggX6_spareAt_X4_stands : GoodIn wsX6_spareAt wsX4_stands := goodIn_q _ [15, 19] [16, 17, 18, 88, 89, 90, 91, 92] rfl (by decide +kernel) (by decide +kernel)
set_option maxRecDepth 20000 in
theorem gX6_spareAt_X4_stands : GoodIn wsX6_spareAt (wsV RX6 110 RX4 yX4_stands wsX4_stands) := goodIn_app (goodIn_of _ (by decide +kernel)) ggX6_spareAt_X4_stands
set_option maxRecDepth 20000 in
theorem ggX6_spareAt_X6_positionAt : GoodIn wsX6_spareAt wsX6_positionAt := goodIn_q _ [24, 31, 36, 46, 56, 63] [3, 25, 26, 27, 28, 29, 30, 32, 33, 34, 35, 37, 38, 39, 40, 41, 42, 43, 44, 45, 47, 48, 49, 50, 51, 52, 53, 54, 55, 57, 58, 59, 60, 61, 62, 64, 65, 79, 80, 81, 82, 83, 84, 85, 86, 87, 93, 94, 95, 96, 97, 98, 99, 100, 101, 102, 103, 104, 105, 106, 107, 108, 109, 110, 111, 112, 113, 114, 115, 116] rfl (by decide +kernel) (by decide +kernel)
set_option maxRecDepth 20000 in
theorem gX6_spareAt_X6_positionAt : GoodIn wsX6_spareAt (wsV RX6 120 RX6 yX6_positionAt wsX6_positionAt) := goodIn_app (goodIn_of _ (by decide +kernel)) ggX6_spareAt_X6_positionAt
set_option maxRecDepth 20000 in
theorem ggX6_spareAt_X8_pair : GoodIn wsX6_spareAt wsX8_pair := goodIn_q _ [19] [] rfl (by decide +kernel) (by decide +kernel)
set_option maxRecDepth 20000 in
theorem gX6_spareAt_X8_pair_n117 : GoodIn wsX6_spareAt (wsX8_pair) := ggX6_spareAt_X8_pair
set_option maxRecDepth 20000 in
theorem ggX6_spareAt_X1_freeAt : GoodIn wsX6_spareAt wsX1_freeAt := goodIn_q _ [69, 73, 77] [70, 71, 72, 30, 37, 38, 39, 40, 74, 75, 76, 41, 78, 93, 94, 95, 96, 97, 98] rfl (by decide +kernel) (by decide +kernel)
set_option maxRecDepth 20000 in
theorem gX6_spareAt_X1_freeAt : GoodIn wsX6_spareAt (wsV RX6 131 RX1 yX1_freeAt wsX1_freeAt) := goodIn_app (goodIn_of _ (by decide +kernel)) ggX6_spareAt_X1_freeAt
set_option maxRecDepth 20000 in
theorem ggX6_rateOver_X2_useWithin : GoodIn wsX6_rateOver wsX2_useWithin := goodIn_q _ [7, 15] [8, 9, 10, 11, 12, 13, 14, 6, 16, 17, 27, 28, 29, 30, 31, 32, 33, 34, 35, 36, 37] rfl (by decide +kernel) (by decide +kernel)
set_option maxRecDepth 20000 in
theorem gX6_rateOver_X2_useWithin : GoodIn wsX6_rateOver (wsV RX6 137 RX2 yX2_useWithin wsX2_useWithin) := goodIn_app (goodIn_of _ (by decide +kernel)) ggX6_rateOver_X2_useWithin
end
section
theorem sg_nar {P : sg_Pic} (hw : sg_W P) (j : Nat) : narrow .boolean (.int (P 30 j)) = .int (P 30 j) := by
  rcases hw.z j with h | h <;> rw [h] <;> decide
theorem sg_hasI {P : sg_Pic} {x : Int32} (hw : sg_W P) (c : ¬ (sg_X0_has P x = 0)) : x = nI (Int32.toNatClampNeg x) ∧ Int32.toNatClampNeg x < sg_cn P 1 := by
  unfold sg_X0_has at c
  split at c
  · exact absurd rfl c
  · split at c
    · exact absurd rfl c
    · rename_i h0 h1
      exact sg_ix hw.e1 (Nat.lt_of_le_of_lt hw.n1 (by decide)) h0 h1
theorem sg_hasS {P : sg_Pic} {x : Int32} (hw : sg_W P) (c : ¬ (sg_X5_has P x = 0)) : x = nI (Int32.toNatClampNeg x) ∧ Int32.toNatClampNeg x < sg_cn P 2 := by
  unfold sg_X5_has at c
  split at c
  · exact absurd rfl c
  · split at c
    · exact absurd rfl c
    · rename_i h0 h1
      exact sg_ix hw.e2 (Nat.lt_of_le_of_lt hw.n2 (by decide)) h0 h1
theorem sg_hasI1 {P : sg_Pic} {j : Nat} (hw : sg_W P) (h : j < sg_cn P 1) : ¬ (sg_X0_has P (nI j) = 0) := by
  have h6 := hw.n1
  unfold sg_X0_has
  rw [if_neg (nI_pos (by omega)), if_neg (sg_nge hw.e1 h (by omega))]
  decide
theorem sg_hasS1 {P : sg_Pic} {j : Nat} (hw : sg_W P) (h : j < sg_cn P 2) : ¬ (sg_X5_has P (nI j) = 0) := by
  have h6 := hw.n2
  unfold sg_X5_has
  rw [if_neg (nI_pos (by omega)), if_neg (sg_nge hw.e2 h (by omega))]
  decide
theorem sg_hasL1 {P : sg_Pic} {j : Nat} (hw : sg_W P) (h : j < sg_cn P 3) : ¬ (sg_X1_has P (nI j) = 0) := by
  have h6 := hw.n3
  unfold sg_X1_has
  rw [if_neg (nI_pos (by omega)), if_neg (sg_nge hw.e3 h (by omega))]
  decide
theorem sg_hasO1 {P : sg_Pic} {j : Nat} (hw : sg_W P) (h : j < sg_cn P 4) : ¬ (sg_X2_has P (nI j) = 0) := by
  have h6 := hw.n4
  unfold sg_X2_has
  rw [if_neg (nI_pos (by omega)), if_neg (sg_nge hw.e4 h (by omega))]
  decide
theorem sg_full_lt {P : sg_Pic} (hw : sg_W P) (c : sg_full P = 0) : sg_cn P 5 < 90 := by
  unfold sg_full at c
  split at c
  · rename_i h
    have h5 := hw.n5
    rw [hw.e5] at h
    rcases Nat.lt_or_ge (sg_cn P 5) 90 with q | q
    · exact q
    · exact absurd h (nI_nlt q (by omega))
  · exact absurd c (by decide)

def sg_stands (P : sg_Pic) (xi : Nat) (xs : Nat) : Int32 := (P 30 ((xi * 5) + xs))

set_option maxHeartbeats 4000000 in
set_option maxRecDepth 100000 in
/-- X4_stands -/
theorem c_stands (l : Launch) (D : va_G) (cI cZ cJ : ClassId) (lo sz : Nat) (a : Nat → Nat) (P : sg_Pic) (xi : Nat) (xs : Nat) (hw : sg_W P) (hi : xi < 6) (hs : xs < 5) : Met l yX4_stands wsX4_stands ({ frames := 1, cells := 0, slots := 0, locals := 21 }) (Pre lo D cI cZ cJ [.ref (a 3), .int (nI xi), .int (nI xs)] sz [(a 3, .inr (4, [.ref (a 30), .ref (a 31), .ref (a 32), .ref (a 33), .ref (a 34)])), (a 30, .inl (cZ, 30, .inl (P 30)))]) (vp_Si (fun r => r = sg_stands P xi xs)) 0 0 (fun _ => False) := by
  refine Met.ofW (cc := cX4_stands) (maxL := 3) (ret := (some .boolean)) (by decide) rfl ?_
  intro p e s m args below meth c s₁ B hml hv
  obtain ⟨rfl, hsz, hP, hD0, hC⟩ := hv
  have hx := B.exec
  have hb := B.bytes
  have hr := B.returns
  have hts := atoms_spec (ws := wsX4_stands) B.pre
  have hown : s.vm.findClass RX4 = some m.cls := findClass_of_methodNamed B.named
  have hlocks := B.notSynchronized
  subst hsz
  have hn1 : sg_cn P 1 ≤ 6 := hw.n1
  have hn2 : sg_cn P 2 ≤ 5 := hw.n2
  have hn3 : sg_cn P 3 ≤ 200 := hw.n3
  have hn4 : sg_cn P 4 ≤ 60 := hw.n4
  have hn5 : sg_cn P 5 ≤ 90 := hw.n5
  have hK := hC.K
  have hD := hD0
  have hS : va_S (fun q => lo ≤ q) s.heap s.heap [] := va_S.rf
  have hAlo : ∀ q, (fun q => lo ≤ q) q → lo ≤ q := fun _ h => h
  have hL : ∀ q ∈ ([] : List Loc), (fun _ : Addr => False) q.base := fun q h => by cases h
  have hP : va_P D vwCl [(a 3, .inr (4, [.ref (a 30), .ref (a 31), .ref (a 32), .ref (a 33), .ref (a 34)])), (a 30, .inl (cZ, 30, .inl (P 30)))] s.heap := hP
  have hl := lv_entry ([.ref (a 3), .int (nI xi), .int (nI xs)]) (n := 3) (Nat.le_of_ble_eq_true rfl)
  rw [lg_entry_eq]
  generalize (lg_sl ([.ref (a 3), .int (nI xi), .int (nI xs)]) ++ List.replicate (3 - (lg_sl ([.ref (a 3), .int (nI xi), .int (nI xs)])).length) Slot.unset).toArray = ls at hl ⊢
  have hl : lv_has ls 3 [(0, .ref (a 3)), (1, .int (nI xi)), (2, .int (nI xs))] := hl
  have in4 : ∀ w ∈ u_ws RX4 TX4 5, w ∈ wsX4_stands := by decide +kernel
  refine lv_aload_n hx hb dX4_stands_0 rfl (lv_at hl 0 rfl) ?_
  refine va_get (D := D) (ci := 4) (v := .ref (a 30)) (C := RX4) (T := TX4) (N := 5) hx hb hts in4 hown hK hP 0 rfl rfl 0 (by decide) (hts (.fieldLink RX4 11 "Granary$Policies" "set" "[Z") (by decide +kernel)) (fun _ h9 => h9) rfl dX4_stands_1 ?_
  refine lv_iload_n hx hb dX4_stands_4 rfl (lv_at hl 1 rfl) ?_
  refine lv_iload_n hx hb dX4_stands_5 rfl (lv_at hl 2 rfl) ?_
  have hPc := hP.sub (ws' := []) [] rfl
  have hDc := hD.sub (ws' := []) [] (by decide) rfl
  refine vp_callSi (sg_dr (va_runSN (As := [.int (nI xi), .int (nI xs)]) (rest := [.ref (a 30)]) ⟨hx, hb, hml, hown, hts⟩ (c_pair l D cI cZ cJ lo s.heap.size xi xs) ⟨va_cnB 2 hts gX4_stands_X8_pair_n28 rfl rfl rfl (hC.nestX4_28) (hts (.initialized RX8) (by decide +kernel)) (by decide +kernel) ⟨(Nat.le_of_ble_eq_true rfl), (Nat.le_of_ble_eq_true rfl)⟩, (hts (.static yX8_pair) (by decide +kernel)), trivial⟩ ⟨Pre.blind, Pre.mk hPc (hDc.weaken (fun _ _ _ h => hAlo _ h)) hC hS hAlo⟩ rfl rfl hl.1 rfl (lv_room (Nat.le_of_ble_eq_true rfl)) dX4_stands_6 ⟨(Nat.le_of_ble_eq_true rfl), (Nat.le_of_ble_eq_true rfl)⟩)) (fun r_1 e_2 => ?_)
  clear hPc hDc
  have e_2 : nI ((xi * 5) + xs) = r_1 := Eq.symm e_2
  subst e_2
  refine sg_zald hx hb hK hP 1 1 rfl rfl (j := (xi * 5) + xs) rfl (by omega) (Nat.le_of_ble_eq_true rfl) dX4_stands_9 ?_
  refine lv_toi (y := P 30 ((xi * 5) + xs)) rfl ?_
  exact W.zret (ty := .boolean) (v := (P 30 ((xi * 5) + xs))) hx hb hr (sg_nar hw _) (fun t ht hW => ⟨(P 30 ((xi * 5) + xs)), rfl, rfl, ht⟩) hL dX4_stands_10

def sg_priceOf (P : sg_Pic) (x : Int32) : Int32 := (if (sg_X0_has P x) = 0 then 0 else (P 11 (Int32.toNatClampNeg x)))

set_option maxHeartbeats 4000000 in
set_option maxRecDepth 100000 in
/-- X0_priceOf -/
theorem c_priceOf (l : Launch) (D : va_G) (cI cZ cJ : ClassId) (lo sz : Nat) (a : Nat → Nat) (P : sg_Pic) (x : Int32) (hw : sg_W P) : Met l yX0_priceOf wsX0_priceOf ({ frames := 1, cells := 0, slots := 0, locals := 21 }) (Pre lo D cI cZ cJ [.ref (a 1), .int x] sz [(a 1, .inr (0, [.int (P 0 1), .ref (a 10), .ref (a 11), .ref (a 12), .ref (a 13)])), (a 11, .inl (cI, 6, .inl (P 11)))]) (vp_Si (fun r => r = sg_priceOf P x)) 0 0 (fun _ => False) := by
  refine Met.ofW (cc := cX0_priceOf) (maxL := 2) (ret := (some .int)) (by decide) rfl ?_
  intro p e s m args below meth c s₁ B hml hv
  obtain ⟨rfl, hsz, hP, hD0, hC⟩ := hv
  have hx := B.exec
  have hb := B.bytes
  have hr := B.returns
  have hts := atoms_spec (ws := wsX0_priceOf) B.pre
  have hown : s.vm.findClass RX0 = some m.cls := findClass_of_methodNamed B.named
  have hlocks := B.notSynchronized
  subst hsz
  have hn1 : sg_cn P 1 ≤ 6 := hw.n1
  have hn2 : sg_cn P 2 ≤ 5 := hw.n2
  have hn3 : sg_cn P 3 ≤ 200 := hw.n3
  have hn4 : sg_cn P 4 ≤ 60 := hw.n4
  have hn5 : sg_cn P 5 ≤ 90 := hw.n5
  have hK := hC.K
  have hD := hD0
  have hS : va_S (fun q => lo ≤ q) s.heap s.heap [] := va_S.rf
  have hAlo : ∀ q, (fun q => lo ≤ q) q → lo ≤ q := fun _ h => h
  have hL : ∀ q ∈ ([] : List Loc), (fun _ : Addr => False) q.base := fun q h => by cases h
  have hP : va_P D vwCl [(a 1, .inr (0, [.int (P 0 1), .ref (a 10), .ref (a 11), .ref (a 12), .ref (a 13)])), (a 11, .inl (cI, 6, .inl (P 11)))] s.heap := hP
  have hl := lv_entry ([.ref (a 1), .int x]) (n := 2) (Nat.le_of_ble_eq_true rfl)
  rw [lg_entry_eq]
  generalize (lg_sl ([.ref (a 1), .int x]) ++ List.replicate (2 - (lg_sl ([.ref (a 1), .int x])).length) Slot.unset).toArray = ls at hl ⊢
  have hl : lv_has ls 2 [(0, .ref (a 1)), (1, .int x)] := hl
  have in0 : ∀ w ∈ u_ws RX0 TX0 5, w ∈ wsX0_priceOf := by decide +kernel
  refine lv_aload_n hx hb dX0_priceOf_0 rfl (lv_at hl 0 rfl) ?_
  refine lv_iload_n hx hb dX0_priceOf_1 rfl (lv_at hl 1 rfl) ?_
  have hPc := hP.sub (ws' := [(a 1, .inr (0, [.int (P 0 1), .ref (a 10), .ref (a 11), .ref (a 12), .ref (a 13)]))]) [0] rfl
  have hDc := hD.sub (ws' := [(a 1, .inr (0, [.int (P 0 1), .ref (a 10), .ref (a 11), .ref (a 12), .ref (a 13)]))]) [0] (by decide) rfl
  refine vp_callSi (W.runV (As := [.int x]) (rest := []) ⟨hx, hb, hml, hown, hts⟩ (c_X0_has l D cI cZ cJ lo s.heap.size a P x) (cwV 1 hts gX0_priceOf_X0_has rfl rfl rfl (by decide +kernel) ⟨(Nat.le_of_ble_eq_true rfl), (Nat.le_of_ble_eq_true rfl)⟩) ⟨Pre.blind, va_recv hK hP (ci := 0) (q0 := 0) rfl rfl, Pre.mk hPc (hDc.weaken (fun _ _ _ h => hAlo _ h)) hC hS hAlo⟩ rfl rfl hl.1 rfl (lv_room (Nat.le_of_ble_eq_true rfl)) dX0_priceOf_2 ⟨(Nat.le_of_ble_eq_true rfl), (Nat.le_of_ble_eq_true rfl)⟩) (fun r_1 e_2 => ?_)
  clear hPc hDc
  have e_2 : sg_X0_has P x = r_1 := Eq.symm e_2
  subst e_2
  refine lv_if_eq (tgt := 17) hx hb dX0_priceOf_5 (by decide) (fun c_3 => ?_) (fun c_3 => ?_)
  · refine lv_iconst (v := 0) hx hb dX0_priceOf_17 (by decide) ?_
    exact W.iret (v := 0) hx hb hr (fun t ht hW => ⟨0, rfl, (show (0 : Int32) = sg_priceOf P x from by rw [sg_priceOf, if_pos c_3]), ht⟩) hL dX0_priceOf_18
  · obtain ⟨e_4, le_4⟩ := sg_hasI hw c_3
    have e_4 : (x : Int32) = nI (Int32.toNatClampNeg x) := e_4
    have le_4 : Int32.toNatClampNeg x < sg_cn P 1 := le_4
    replace hl : lv_has ls 2 [(0, .ref (a 1)), (1, .int (nI (Int32.toNatClampNeg x)))] := by rw [← e_4]; exact hl
    refine lv_aload_n hx hb dX0_priceOf_8 rfl (lv_at hl 0 rfl) ?_
    refine va_get (D := D) (ci := 0) (v := .ref (a 11)) (C := RX0) (T := TX0) (N := 5) hx hb hts in0 hown hK hP 0 rfl rfl 2 (by decide) (hts (.fieldLink RX0 15 "Granary$Items" "price" "[I") (by decide +kernel)) (fun _ h9 => h9) rfl dX0_priceOf_9 ?_
    refine lv_iload_n hx hb dX0_priceOf_12 rfl (lv_at hl 1 rfl) ?_
    refine sg_iald hx hb hK hP 1 0 rfl rfl (j := Int32.toNatClampNeg x) rfl (by omega) (Nat.le_of_ble_eq_true rfl) dX0_priceOf_13 ?_
    refine lv_toi (y := P 11 (Int32.toNatClampNeg x)) rfl ?_
    refine lv_goto (tgt := 18) hx hb dX0_priceOf_14 (by decide) ?_
    exact W.iret (v := (P 11 (Int32.toNatClampNeg x))) hx hb hr (fun t ht hW => ⟨(P 11 (Int32.toNatClampNeg x)), rfl, (show (P 11 (Int32.toNatClampNeg x) : Int32) = sg_priceOf P x from by rw [sg_priceOf, if_neg c_3]), ht⟩) hL dX0_priceOf_18

theorem sg_pos0 {x : Int32} (h : ¬ (x ≤ 0)) : ¬ x = 0 := fun e => h (by rw [e]; decide)
theorem sg_pos1 {x : Int32} (h : 0 < x) : ¬ x = 0 := fun e => by rw [e] at h; exact absurd h (by decide)

def sg_inPacks (P : sg_Pic) (x : Int32) (y : Int32) : Int32 := (if (sg_X0_has P x) = 0 then y else (if 0 < (P 12 (Int32.toNatClampNeg x)) then (if (y - y / (P 12 (Int32.toNatClampNeg x)) * (P 12 (Int32.toNatClampNeg x))) = 0 then y else ((y + (P 12 (Int32.toNatClampNeg x))) - (y - y / (P 12 (Int32.toNatClampNeg x)) * (P 12 (Int32.toNatClampNeg x))))) else y))

set_option maxHeartbeats 4000000 in
set_option maxRecDepth 100000 in
/-- X0_inPacks -/
theorem c_inPacks (l : Launch) (D : va_G) (cI cZ cJ : ClassId) (lo sz : Nat) (a : Nat → Nat) (P : sg_Pic) (x : Int32) (y : Int32) (hw : sg_W P) : Met l yX0_inPacks wsX0_inPacks ({ frames := 1, cells := 0, slots := 0, locals := 21 }) (Pre lo D cI cZ cJ [.ref (a 1), .int x, .int y] sz [(a 1, .inr (0, [.int (P 0 1), .ref (a 10), .ref (a 11), .ref (a 12), .ref (a 13)])), (a 12, .inl (cI, 6, .inl (P 12)))]) (vp_Si (fun r => r = sg_inPacks P x y)) 0 0 (fun _ => False) := by
  refine Met.ofW (cc := cX0_inPacks) (maxL := 4) (ret := (some .int)) (by decide) rfl ?_
  intro p e s m args below meth c s₁ B hml hv
  obtain ⟨rfl, hsz, hP, hD0, hC⟩ := hv
  have hx := B.exec
  have hb := B.bytes
  have hr := B.returns
  have hts := atoms_spec (ws := wsX0_inPacks) B.pre
  have hown : s.vm.findClass RX0 = some m.cls := findClass_of_methodNamed B.named
  have hlocks := B.notSynchronized
  subst hsz
  have hn1 : sg_cn P 1 ≤ 6 := hw.n1
  have hn2 : sg_cn P 2 ≤ 5 := hw.n2
  have hn3 : sg_cn P 3 ≤ 200 := hw.n3
  have hn4 : sg_cn P 4 ≤ 60 := hw.n4
  have hn5 : sg_cn P 5 ≤ 90 := hw.n5
  have hK := hC.K
  have hD := hD0
  have hS : va_S (fun q => lo ≤ q) s.heap s.heap [] := va_S.rf
  have hAlo : ∀ q, (fun q => lo ≤ q) q → lo ≤ q := fun _ h => h
  have hL : ∀ q ∈ ([] : List Loc), (fun _ : Addr => False) q.base := fun q h => by cases h
  have hP : va_P D vwCl [(a 1, .inr (0, [.int (P 0 1), .ref (a 10), .ref (a 11), .ref (a 12), .ref (a 13)])), (a 12, .inl (cI, 6, .inl (P 12)))] s.heap := hP
  have hl := lv_entry ([.ref (a 1), .int x, .int y]) (n := 4) (Nat.le_of_ble_eq_true rfl)
  rw [lg_entry_eq]
  generalize (lg_sl ([.ref (a 1), .int x, .int y]) ++ List.replicate (4 - (lg_sl ([.ref (a 1), .int x, .int y])).length) Slot.unset).toArray = ls at hl ⊢
  have hl : lv_has ls 4 [(0, .ref (a 1)), (1, .int x), (2, .int y)] := hl
  have in0 : ∀ w ∈ u_ws RX0 TX0 5, w ∈ wsX0_inPacks := by decide +kernel
  refine lv_aload_n hx hb dX0_inPacks_0 rfl (lv_at hl 0 rfl) ?_
  refine lv_iload_n hx hb dX0_inPacks_1 rfl (lv_at hl 1 rfl) ?_
  have hPc := hP.sub (ws' := [(a 1, .inr (0, [.int (P 0 1), .ref (a 10), .ref (a 11), .ref (a 12), .ref (a 13)]))]) [0] rfl
  have hDc := hD.sub (ws' := [(a 1, .inr (0, [.int (P 0 1), .ref (a 10), .ref (a 11), .ref (a 12), .ref (a 13)]))]) [0] (by decide) rfl
  refine vp_callSi (W.runV (As := [.int x]) (rest := []) ⟨hx, hb, hml, hown, hts⟩ (c_X0_has l D cI cZ cJ lo s.heap.size a P x) (cwV 1 hts gX0_inPacks_X0_has rfl rfl rfl (by decide +kernel) ⟨(Nat.le_of_ble_eq_true rfl), (Nat.le_of_ble_eq_true rfl)⟩) ⟨Pre.blind, va_recv hK hP (ci := 0) (q0 := 0) rfl rfl, Pre.mk hPc (hDc.weaken (fun _ _ _ h => hAlo _ h)) hC hS hAlo⟩ rfl rfl hl.1 rfl (lv_room (Nat.le_of_ble_eq_true rfl)) dX0_inPacks_2 ⟨(Nat.le_of_ble_eq_true rfl), (Nat.le_of_ble_eq_true rfl)⟩) (fun r_1 e_2 => ?_)
  clear hPc hDc
  have e_2 : sg_X0_has P x = r_1 := Eq.symm e_2
  subst e_2
  refine lv_if_eq (tgt := 17) hx hb dX0_inPacks_5 (by decide) (fun c_3 => ?_) (fun c_3 => ?_)
  · refine lv_iload_n hx hb dX0_inPacks_17 rfl (lv_at hl 2 rfl) ?_
    exact W.iret (v := y) hx hb hr (fun t ht hW => ⟨y, rfl, (show (y : Int32) = sg_inPacks P x y from by rw [sg_inPacks, if_pos c_3]), ht⟩) hL dX0_inPacks_18
  · obtain ⟨e_4, le_4⟩ := sg_hasI hw c_3
    have e_4 : (x : Int32) = nI (Int32.toNatClampNeg x) := e_4
    have le_4 : Int32.toNatClampNeg x < sg_cn P 1 := le_4
    replace hl : lv_has ls 4 [(0, .ref (a 1)), (1, .int (nI (Int32.toNatClampNeg x))), (2, .int y)] := by rw [← e_4]; exact hl
    refine lv_aload_n hx hb dX0_inPacks_8 rfl (lv_at hl 0 rfl) ?_
    refine va_get (D := D) (ci := 0) (v := .ref (a 12)) (C := RX0) (T := TX0) (N := 5) hx hb hts in0 hown hK hP 0 rfl rfl 3 (by decide) (hts (.fieldLink RX0 18 "Granary$Items" "pack" "[I") (by decide +kernel)) (fun _ h9 => h9) rfl dX0_inPacks_9 ?_
    refine lv_iload_n hx hb dX0_inPacks_12 rfl (lv_at hl 1 rfl) ?_
    refine sg_iald hx hb hK hP 1 0 rfl rfl (j := Int32.toNatClampNeg x) rfl (by omega) (Nat.le_of_ble_eq_true rfl) dX0_inPacks_13 ?_
    refine lv_toi (y := P 12 (Int32.toNatClampNeg x)) rfl ?_
    refine lv_if_gt (tgt := 19) hx hb dX0_inPacks_14 (by decide) (fun c_5 => ?_) (fun c_5 => ?_)
    · refine lv_iload_n hx hb dX0_inPacks_19 rfl (lv_at hl 2 rfl) ?_
      refine lv_aload_n hx hb dX0_inPacks_20 rfl (lv_at hl 0 rfl) ?_
      refine va_get (D := D) (ci := 0) (v := .ref (a 12)) (C := RX0) (T := TX0) (N := 5) hx hb hts in0 hown hK hP 0 rfl rfl 3 (by decide) (hts (.fieldLink RX0 18 "Granary$Items" "pack" "[I") (by decide +kernel)) (fun _ h9 => h9) rfl dX0_inPacks_21 ?_
      refine lv_iload_n hx hb dX0_inPacks_24 rfl (lv_at hl 1 rfl) ?_
      refine sg_iald hx hb hK hP 1 0 rfl rfl (j := Int32.toNatClampNeg x) rfl (by omega) (Nat.le_of_ble_eq_true rfl) dX0_inPacks_25 ?_
      refine lv_toi (y := P 12 (Int32.toNatClampNeg x)) rfl ?_
      refine lv_irem hx hb dX0_inPacks_26 (sg_pos1 c_5) ?_
      refine lv_istore_n (lv' := [(3, .int (y - y / (P 12 (Int32.toNatClampNeg x)) * (P 12 (Int32.toNatClampNeg x)))), (0, .ref (a 1)), (1, .int (nI (Int32.toNatClampNeg x))), (2, .int y)]) hx hb dX0_inPacks_27 rfl hl (by decide) rfl (fun ls hl => ?_)
      refine lv_iload_n hx hb dX0_inPacks_28 rfl (lv_at hl 0 rfl) ?_
      refine lv_if_ne (tgt := 36) hx hb dX0_inPacks_29 (by decide) (fun c_6 => ?_) (fun c_6 => ?_)
      · refine lv_iload_n hx hb dX0_inPacks_36 rfl (lv_at hl 3 rfl) ?_
        refine lv_aload_n hx hb dX0_inPacks_37 rfl (lv_at hl 1 rfl) ?_
        refine va_get (D := D) (ci := 0) (v := .ref (a 12)) (C := RX0) (T := TX0) (N := 5) hx hb hts in0 hown hK hP 0 rfl rfl 3 (by decide) (hts (.fieldLink RX0 18 "Granary$Items" "pack" "[I") (by decide +kernel)) (fun _ h9 => h9) rfl dX0_inPacks_38 ?_
        refine lv_iload_n hx hb dX0_inPacks_41 rfl (lv_at hl 2 rfl) ?_
        refine sg_iald hx hb hK hP 1 0 rfl rfl (j := Int32.toNatClampNeg x) rfl (by omega) (Nat.le_of_ble_eq_true rfl) dX0_inPacks_42 ?_
        refine lv_toi (y := P 12 (Int32.toNatClampNeg x)) rfl ?_
        refine lv_iadd hx hb dX0_inPacks_43 ?_
        refine lv_iload_n hx hb dX0_inPacks_44 rfl (lv_at hl 0 rfl) ?_
        refine lv_isub hx hb dX0_inPacks_45 ?_
        exact W.iret (v := ((y + (P 12 (Int32.toNatClampNeg x))) - (y - y / (P 12 (Int32.toNatClampNeg x)) * (P 12 (Int32.toNatClampNeg x))))) hx hb hr (fun t ht hW => ⟨((y + (P 12 (Int32.toNatClampNeg x))) - (y - y / (P 12 (Int32.toNatClampNeg x)) * (P 12 (Int32.toNatClampNeg x)))), rfl, (show ((y + (P 12 (Int32.toNatClampNeg x))) - (y - y / (P 12 (Int32.toNatClampNeg x)) * (P 12 (Int32.toNatClampNeg x))) : Int32) = sg_inPacks P x y from by rw [sg_inPacks, if_neg c_3, if_pos c_5, if_neg c_6]), ht⟩) hL dX0_inPacks_46
      · refine lv_iload_n hx hb dX0_inPacks_32 rfl (lv_at hl 3 rfl) ?_
        refine lv_goto (tgt := 46) hx hb dX0_inPacks_33 (by decide) ?_
        exact W.iret (v := y) hx hb hr (fun t ht hW => ⟨y, rfl, (show (y : Int32) = sg_inPacks P x y from by rw [sg_inPacks, if_neg c_3, if_pos c_5, if_pos c_6]), ht⟩) hL dX0_inPacks_46
    · refine lv_iload_n hx hb dX0_inPacks_17 rfl (lv_at hl 2 rfl) ?_
      exact W.iret (v := y) hx hb hr (fun t ht hW => ⟨y, rfl, (show (y : Int32) = sg_inPacks P x y from by rw [sg_inPacks, if_neg c_3, if_neg c_5]), ht⟩) hL dX0_inPacks_18

def sg_classFor_7 (P : sg_Pic) (xi : Nat) : Nat → Int32 × Int32
  | 0 => (0, 0)
  | j7 + 1 => (if (P 13 xi) < (P 13 j7) then (((sg_classFor_7 P xi j7).1) + (P 13 j7), ((sg_classFor_7 P xi j7).2) + (P 13 j7)) else (if (P 13 j7) = (P 13 xi) then (if (nI xi) ≤ (nI j7) then (((sg_classFor_7 P xi j7).1) + (P 13 j7), ((sg_classFor_7 P xi j7).2)) else (((sg_classFor_7 P xi j7).1) + (P 13 j7), ((sg_classFor_7 P xi j7).2) + (P 13 j7))) else (((sg_classFor_7 P xi j7).1) + (P 13 j7), ((sg_classFor_7 P xi j7).2))))

def sg_classFor (P : sg_Pic) (xi : Nat) : Int32 := (if (((sg_classFor_7 P xi (sg_cn P 1)).1) * 80) ≤ (((sg_classFor_7 P xi (sg_cn P 1)).2) * 100) then (if (((sg_classFor_7 P xi (sg_cn P 1)).1) * 95) ≤ (((sg_classFor_7 P xi (sg_cn P 1)).2) * 100) then 2 else 1) else 0)

set_option maxHeartbeats 4000000 in
set_option maxRecDepth 100000 in
/-- X0_classFor -/
theorem c_classFor (l : Launch) (D : va_G) (cI cZ cJ : ClassId) (lo sz : Nat) (a : Nat → Nat) (P : sg_Pic) (xi : Nat) (hw : sg_W P) (hi : xi < 6) : Met l yX0_classFor wsX0_classFor ({ frames := 0, cells := 0, slots := 0, locals := 0 }) (Pre lo D cI cZ cJ [.ref (a 1), .int (nI xi)] sz [(a 1, .inr (0, [.int (P 0 1), .ref (a 10), .ref (a 11), .ref (a 12), .ref (a 13)])), (a 13, .inl (cI, 6, .inl (P 13)))]) (vp_Si (fun r => r = sg_classFor P xi)) 0 0 (fun _ => False) := by
  refine Met.ofW (cc := cX0_classFor) (maxL := 5) (ret := (some .int)) (by decide) rfl ?_
  intro p e s m args below meth c s₁ B hml hv
  obtain ⟨rfl, hsz, hP, hD0, hC⟩ := hv
  have hx := B.exec
  have hb := B.bytes
  have hr := B.returns
  have hts := atoms_spec (ws := wsX0_classFor) B.pre
  have hown : s.vm.findClass RX0 = some m.cls := findClass_of_methodNamed B.named
  have hlocks := B.notSynchronized
  subst hsz
  have hn1 : sg_cn P 1 ≤ 6 := hw.n1
  have hn2 : sg_cn P 2 ≤ 5 := hw.n2
  have hn3 : sg_cn P 3 ≤ 200 := hw.n3
  have hn4 : sg_cn P 4 ≤ 60 := hw.n4
  have hn5 : sg_cn P 5 ≤ 90 := hw.n5
  have hK := hC.K
  have hD := hD0
  have hS : va_S (fun q => lo ≤ q) s.heap s.heap [] := va_S.rf
  have hAlo : ∀ q, (fun q => lo ≤ q) q → lo ≤ q := fun _ h => h
  have hL : ∀ q ∈ ([] : List Loc), (fun _ : Addr => False) q.base := fun q h => by cases h
  have hP : va_P D vwCl [(a 1, .inr (0, [.int (P 0 1), .ref (a 10), .ref (a 11), .ref (a 12), .ref (a 13)])), (a 13, .inl (cI, 6, .inl (P 13)))] s.heap := hP
  have hl := lv_entry ([.ref (a 1), .int (nI xi)]) (n := 5) (Nat.le_of_ble_eq_true rfl)
  rw [lg_entry_eq]
  generalize (lg_sl ([.ref (a 1), .int (nI xi)]) ++ List.replicate (5 - (lg_sl ([.ref (a 1), .int (nI xi)])).length) Slot.unset).toArray = ls at hl ⊢
  have hl : lv_has ls 5 [(0, .ref (a 1)), (1, .int (nI xi))] := hl
  have in0 : ∀ w ∈ u_ws RX0 TX0 5, w ∈ wsX0_classFor := by decide +kernel
  refine lv_iconst (v := 0) hx hb dX0_classFor_0 (by decide) ?_
  refine lv_istore_n (lv' := [(2, .int 0), (0, .ref (a 1)), (1, .int (nI xi))]) hx hb dX0_classFor_1 rfl hl (by decide) rfl (fun ls hl => ?_)
  refine lv_iconst (v := 0) hx hb dX0_classFor_2 (by decide) ?_
  refine lv_istore_n (lv' := [(3, .int 0), (2, .int 0), (0, .ref (a 1)), (1, .int (nI xi))]) hx hb dX0_classFor_3 rfl hl (by decide) rfl (fun ls hl => ?_)
  refine lv_iconst (v := 0) hx hb dX0_classFor_4 (by decide) ?_
  refine lv_istore (lv' := [(4, .int 0), (3, .int 0), (2, .int 0), (0, .ref (a 1)), (1, .int (nI xi))]) hx hb dX0_classFor_5 hl (by decide) rfl (fun ls hl => ?_)
  obtain ⟨j7, h0j7⟩ : ∃ j : Nat, j = 0 := ⟨_, rfl⟩
  obtain ⟨x7_2, hx7_2⟩ : ∃ z9 : Int32, z9 = (sg_classFor_7 P xi j7).1 := ⟨_, rfl⟩
  obtain ⟨x7_3, hx7_3⟩ : ∃ z9 : Int32, z9 = (sg_classFor_7 P xi j7).2 := ⟨_, rfl⟩
  replace hl : lv_has ls 5 [(4, .int (nI j7)), (3, .int x7_3), (2, .int x7_2), (0, .ref (a 1)), (1, .int (nI xi))] := by rw [hx7_2, hx7_3, h0j7]; exact hl
  have hjj7 : j7 ≤ sg_cn P 1 := by omega
  clear h0j7
  obtain ⟨n7, hn7⟩ : ∃ n : Nat, sg_cn P 1 < j7 + n := ⟨sg_cn P 1 + 1, by omega⟩
  revert hl
  revert hn7
  revert hjj7
  revert hx7_2
  revert hx7_3
  revert ls
  revert x7_2
  revert x7_3
  revert j7
  induction n7 with
  | zero =>
    intro j7 x7_3 x7_2 ls hx7_3 hx7_2 hjj7 hn7 hl
    exact absurd hn7 (by omega)
  | succ n7 ih7 =>
    intro j7 x7_3 x7_2 ls hx7_3 hx7_2 hjj7 hn7 hl
    refine lv_iload hx hb dX0_classFor_7 (lv_at hl 0 rfl) ?_
    refine lv_aload_n hx hb dX0_classFor_9 rfl (lv_at hl 3 rfl) ?_
    refine va_get (D := D) (ci := 0) (v := .int (P 0 1)) (C := RX0) (T := TX0) (N := 5) hx hb hts in0 hown hK hP 0 rfl rfl 0 (by decide) (hts (.fieldLink RX0 24 "Granary$Items" "count" "I") (by decide +kernel)) (fun _ h9 => h9) rfl dX0_classFor_10 ?_
    have hB7 : ((P 0 1) : Int32) = nI (sg_cn P 1) := (hw.e1)
    refine lv_icmp_ge (tgt := 80) hx hb dX0_classFor_13 (by decide) (fun c_1 => ?_) (fun c_1 => ?_)
    · have hE7 : j7 = sg_cn P 1 := sg_eq hB7 c_1 hjj7 (by omega)
      clear ih7 hn7
      subst hE7
      subst hx7_2
      subst hx7_3
      refine lv_iload_n hx hb dX0_classFor_80 rfl (lv_at hl 1 rfl) ?_
      refine lv_bipush (v := 100) hx hb dX0_classFor_81 (by decide) ?_
      refine lv_imul hx hb dX0_classFor_83 ?_
      refine lv_iload_n hx hb dX0_classFor_84 rfl (lv_at hl 2 rfl) ?_
      refine lv_bipush (v := 80) hx hb dX0_classFor_85 (by decide) ?_
      refine lv_imul hx hb dX0_classFor_87 ?_
      refine lv_icmp_ge (tgt := 93) hx hb dX0_classFor_88 (by decide) (fun c_2 => ?_) (fun c_2 => ?_)
      · refine lv_iload_n hx hb dX0_classFor_93 rfl (lv_at hl 1 rfl) ?_
        refine lv_bipush (v := 100) hx hb dX0_classFor_94 (by decide) ?_
        refine lv_imul hx hb dX0_classFor_96 ?_
        refine lv_iload_n hx hb dX0_classFor_97 rfl (lv_at hl 2 rfl) ?_
        refine lv_bipush (v := 95) hx hb dX0_classFor_98 (by decide) ?_
        refine lv_imul hx hb dX0_classFor_100 ?_
        refine lv_icmp_ge (tgt := 108) hx hb dX0_classFor_101 (by decide) (fun c_3 => ?_) (fun c_3 => ?_)
        · refine lv_iconst (v := 2) hx hb dX0_classFor_108 (by decide) ?_
          exact W.iret (v := 2) hx hb hr (fun t ht hW => ⟨2, rfl, (show (2 : Int32) = sg_classFor P xi from by rw [sg_classFor, if_pos c_2, if_pos c_3]), ht⟩) hL dX0_classFor_109
        · refine lv_iconst (v := 1) hx hb dX0_classFor_104 (by decide) ?_
          refine lv_goto (tgt := 109) hx hb dX0_classFor_105 (by decide) ?_
          exact W.iret (v := 1) hx hb hr (fun t ht hW => ⟨1, rfl, (show (1 : Int32) = sg_classFor P xi from by rw [sg_classFor, if_pos c_2, if_neg c_3]), ht⟩) hL dX0_classFor_109
      · refine lv_iconst (v := 0) hx hb dX0_classFor_91 (by decide) ?_
        exact W.iret (v := 0) hx hb hr (fun t ht hW => ⟨0, rfl, (show (0 : Int32) = sg_classFor P xi from by rw [sg_classFor, if_neg c_2]), ht⟩) hL dX0_classFor_92
    · have hL7 : j7 < sg_cn P 1 := sg_lt hB7 c_1 (by omega)
      refine lv_iload_n hx hb dX0_classFor_16 rfl (lv_at hl 2 rfl) ?_
      refine lv_aload_n hx hb dX0_classFor_17 rfl (lv_at hl 3 rfl) ?_
      refine va_get (D := D) (ci := 0) (v := .ref (a 13)) (C := RX0) (T := TX0) (N := 5) hx hb hts in0 hown hK hP 0 rfl rfl 4 (by decide) (hts (.fieldLink RX0 21 "Granary$Items" "earned" "[I") (by decide +kernel)) (fun _ h9 => h9) rfl dX0_classFor_18 ?_
      refine lv_iload hx hb dX0_classFor_21 (lv_at hl 0 rfl) ?_
      refine sg_iald hx hb hK hP 1 0 rfl rfl (j := j7) rfl (by omega) (Nat.le_of_ble_eq_true rfl) dX0_classFor_23 ?_
      refine lv_toi (y := P 13 j7) rfl ?_
      refine lv_iadd hx hb dX0_classFor_24 ?_
      refine lv_istore_n (lv' := [(2, .int (x7_2 + (P 13 j7))), (4, .int (nI j7)), (3, .int x7_3), (0, .ref (a 1)), (1, .int (nI xi))]) hx hb dX0_classFor_25 rfl hl (by decide) rfl (fun ls hl => ?_)
      refine lv_aload_n hx hb dX0_classFor_26 rfl (lv_at hl 3 rfl) ?_
      refine va_get (D := D) (ci := 0) (v := .ref (a 13)) (C := RX0) (T := TX0) (N := 5) hx hb hts in0 hown hK hP 0 rfl rfl 4 (by decide) (hts (.fieldLink RX0 21 "Granary$Items" "earned" "[I") (by decide +kernel)) (fun _ h9 => h9) rfl dX0_classFor_27 ?_
      refine lv_iload hx hb dX0_classFor_30 (lv_at hl 1 rfl) ?_
      refine sg_iald hx hb hK hP 1 0 rfl rfl (j := j7) rfl (by omega) (Nat.le_of_ble_eq_true rfl) dX0_classFor_32 ?_
      refine lv_toi (y := P 13 j7) rfl ?_
      refine lv_aload_n hx hb dX0_classFor_33 rfl (lv_at hl 3 rfl) ?_
      refine va_get (D := D) (ci := 0) (v := .ref (a 13)) (C := RX0) (T := TX0) (N := 5) hx hb hts in0 hown hK hP 0 rfl rfl 4 (by decide) (hts (.fieldLink RX0 21 "Granary$Items" "earned" "[I") (by decide +kernel)) (fun _ h9 => h9) rfl dX0_classFor_34 ?_
      refine lv_iload_n hx hb dX0_classFor_37 rfl (lv_at hl 4 rfl) ?_
      refine sg_iald hx hb hK hP 1 0 rfl rfl (j := xi) rfl (by omega) (Nat.le_of_ble_eq_true rfl) dX0_classFor_38 ?_
      refine lv_toi (y := P 13 xi) rfl ?_
      refine lv_icmp_gt (tgt := 64) hx hb dX0_classFor_39 (by decide) (fun c_4 => ?_) (fun c_4 => ?_)
      · refine lv_iload_n hx hb dX0_classFor_64 rfl (lv_at hl 2 rfl) ?_
        refine lv_aload_n hx hb dX0_classFor_65 rfl (lv_at hl 3 rfl) ?_
        refine va_get (D := D) (ci := 0) (v := .ref (a 13)) (C := RX0) (T := TX0) (N := 5) hx hb hts in0 hown hK hP 0 rfl rfl 4 (by decide) (hts (.fieldLink RX0 21 "Granary$Items" "earned" "[I") (by decide +kernel)) (fun _ h9 => h9) rfl dX0_classFor_66 ?_
        refine lv_iload hx hb dX0_classFor_69 (lv_at hl 1 rfl) ?_
        refine sg_iald hx hb hK hP 1 0 rfl rfl (j := j7) rfl (by omega) (Nat.le_of_ble_eq_true rfl) dX0_classFor_71 ?_
        refine lv_toi (y := P 13 j7) rfl ?_
        refine lv_iadd hx hb dX0_classFor_72 ?_
        refine lv_istore_n (lv' := [(3, .int (x7_3 + (P 13 j7))), (2, .int (x7_2 + (P 13 j7))), (4, .int (nI j7)), (0, .ref (a 1)), (1, .int (nI xi))]) hx hb dX0_classFor_73 rfl hl (by decide) rfl (fun ls hl => ?_)
        refine lv_iinc (v := nI (j7 + 1)) (lv' := [(4, .int (nI (j7 + 1))), (3, .int (x7_3 + (P 13 j7))), (2, .int (x7_2 + (P 13 j7))), (0, .ref (a 1)), (1, .int (nI xi))]) hx hb dX0_classFor_74 hl (k := 2) rfl (nI_1 j7) (by decide) rfl (fun ls hl => ?_)
        refine lv_goto (tgt := 7) hx hb dX0_classFor_77 (by decide) ?_
        have hl8 := hl
        subst hx7_2
        subst hx7_3
        exact ih7 (j7 + 1) (((sg_classFor_7 P xi j7).2) + (P 13 j7)) (((sg_classFor_7 P xi j7).1) + (P 13 j7)) _ (show (((sg_classFor_7 P xi j7).2) + (P 13 j7) : Int32) = (sg_classFor_7 P xi (j7 + 1)).2 from by rw [sg_classFor_7, if_pos c_4]) (show (((sg_classFor_7 P xi j7).1) + (P 13 j7) : Int32) = (sg_classFor_7 P xi (j7 + 1)).1 from by rw [sg_classFor_7, if_pos c_4]) (by omega) (by omega) (lv_sub hl8 [0, 1, 2, 3, 4] rfl)
      · refine lv_aload_n hx hb dX0_classFor_42 rfl (lv_at hl 3 rfl) ?_
        refine va_get (D := D) (ci := 0) (v := .ref (a 13)) (C := RX0) (T := TX0) (N := 5) hx hb hts in0 hown hK hP 0 rfl rfl 4 (by decide) (hts (.fieldLink RX0 21 "Granary$Items" "earned" "[I") (by decide +kernel)) (fun _ h9 => h9) rfl dX0_classFor_43 ?_
        refine lv_iload hx hb dX0_classFor_46 (lv_at hl 1 rfl) ?_
        refine sg_iald hx hb hK hP 1 0 rfl rfl (j := j7) rfl (by omega) (Nat.le_of_ble_eq_true rfl) dX0_classFor_48 ?_
        refine lv_toi (y := P 13 j7) rfl ?_
        refine lv_aload_n hx hb dX0_classFor_49 rfl (lv_at hl 3 rfl) ?_
        refine va_get (D := D) (ci := 0) (v := .ref (a 13)) (C := RX0) (T := TX0) (N := 5) hx hb hts in0 hown hK hP 0 rfl rfl 4 (by decide) (hts (.fieldLink RX0 21 "Granary$Items" "earned" "[I") (by decide +kernel)) (fun _ h9 => h9) rfl dX0_classFor_50 ?_
        refine lv_iload_n hx hb dX0_classFor_53 rfl (lv_at hl 4 rfl) ?_
        refine sg_iald hx hb hK hP 1 0 rfl rfl (j := xi) rfl (by omega) (Nat.le_of_ble_eq_true rfl) dX0_classFor_54 ?_
        refine lv_toi (y := P 13 xi) rfl ?_
        refine lv_icmp_ne (tgt := 74) hx hb dX0_classFor_55 (by decide) (fun c_5 => ?_) (fun c_5 => ?_)
        · refine lv_iinc (v := nI (j7 + 1)) (lv' := [(4, .int (nI (j7 + 1))), (2, .int (x7_2 + (P 13 j7))), (3, .int x7_3), (0, .ref (a 1)), (1, .int (nI xi))]) hx hb dX0_classFor_74 hl (k := 1) rfl (nI_1 j7) (by decide) rfl (fun ls hl => ?_)
          refine lv_goto (tgt := 7) hx hb dX0_classFor_77 (by decide) ?_
          have hl8 := hl
          subst hx7_2
          subst hx7_3
          exact ih7 (j7 + 1) ((sg_classFor_7 P xi j7).2) (((sg_classFor_7 P xi j7).1) + (P 13 j7)) _ (show (((sg_classFor_7 P xi j7).2) : Int32) = (sg_classFor_7 P xi (j7 + 1)).2 from by rw [sg_classFor_7, if_neg c_4, if_neg c_5]) (show (((sg_classFor_7 P xi j7).1) + (P 13 j7) : Int32) = (sg_classFor_7 P xi (j7 + 1)).1 from by rw [sg_classFor_7, if_neg c_4, if_neg c_5]) (by omega) (by omega) (lv_sub hl8 [0, 2, 1, 3, 4] rfl)
        · refine lv_iload hx hb dX0_classFor_58 (lv_at hl 1 rfl) ?_
          refine lv_iload_n hx hb dX0_classFor_60 rfl (lv_at hl 4 rfl) ?_
          refine lv_icmp_ge (tgt := 74) hx hb dX0_classFor_61 (by decide) (fun c_6 => ?_) (fun c_6 => ?_)
          · refine lv_iinc (v := nI (j7 + 1)) (lv' := [(4, .int (nI (j7 + 1))), (2, .int (x7_2 + (P 13 j7))), (3, .int x7_3), (0, .ref (a 1)), (1, .int (nI xi))]) hx hb dX0_classFor_74 hl (k := 1) rfl (nI_1 j7) (by decide) rfl (fun ls hl => ?_)
            refine lv_goto (tgt := 7) hx hb dX0_classFor_77 (by decide) ?_
            have hl8 := hl
            subst hx7_2
            subst hx7_3
            exact ih7 (j7 + 1) ((sg_classFor_7 P xi j7).2) (((sg_classFor_7 P xi j7).1) + (P 13 j7)) _ (show (((sg_classFor_7 P xi j7).2) : Int32) = (sg_classFor_7 P xi (j7 + 1)).2 from by rw [sg_classFor_7, if_neg c_4, if_pos c_5, if_pos c_6]) (show (((sg_classFor_7 P xi j7).1) + (P 13 j7) : Int32) = (sg_classFor_7 P xi (j7 + 1)).1 from by rw [sg_classFor_7, if_neg c_4, if_pos c_5, if_pos c_6]) (by omega) (by omega) (lv_sub hl8 [0, 2, 1, 3, 4] rfl)
          · refine lv_iload_n hx hb dX0_classFor_64 rfl (lv_at hl 2 rfl) ?_
            refine lv_aload_n hx hb dX0_classFor_65 rfl (lv_at hl 3 rfl) ?_
            refine va_get (D := D) (ci := 0) (v := .ref (a 13)) (C := RX0) (T := TX0) (N := 5) hx hb hts in0 hown hK hP 0 rfl rfl 4 (by decide) (hts (.fieldLink RX0 21 "Granary$Items" "earned" "[I") (by decide +kernel)) (fun _ h9 => h9) rfl dX0_classFor_66 ?_
            refine lv_iload hx hb dX0_classFor_69 (lv_at hl 1 rfl) ?_
            refine sg_iald hx hb hK hP 1 0 rfl rfl (j := j7) rfl (by omega) (Nat.le_of_ble_eq_true rfl) dX0_classFor_71 ?_
            refine lv_toi (y := P 13 j7) rfl ?_
            refine lv_iadd hx hb dX0_classFor_72 ?_
            refine lv_istore_n (lv' := [(3, .int (x7_3 + (P 13 j7))), (2, .int (x7_2 + (P 13 j7))), (4, .int (nI j7)), (0, .ref (a 1)), (1, .int (nI xi))]) hx hb dX0_classFor_73 rfl hl (by decide) rfl (fun ls hl => ?_)
            refine lv_iinc (v := nI (j7 + 1)) (lv' := [(4, .int (nI (j7 + 1))), (3, .int (x7_3 + (P 13 j7))), (2, .int (x7_2 + (P 13 j7))), (0, .ref (a 1)), (1, .int (nI xi))]) hx hb dX0_classFor_74 hl (k := 2) rfl (nI_1 j7) (by decide) rfl (fun ls hl => ?_)
            refine lv_goto (tgt := 7) hx hb dX0_classFor_77 (by decide) ?_
            have hl8 := hl
            subst hx7_2
            subst hx7_3
            exact ih7 (j7 + 1) (((sg_classFor_7 P xi j7).2) + (P 13 j7)) (((sg_classFor_7 P xi j7).1) + (P 13 j7)) _ (show (((sg_classFor_7 P xi j7).2) + (P 13 j7) : Int32) = (sg_classFor_7 P xi (j7 + 1)).2 from by rw [sg_classFor_7, if_neg c_4, if_pos c_5, if_neg c_6]) (show (((sg_classFor_7 P xi j7).1) + (P 13 j7) : Int32) = (sg_classFor_7 P xi (j7 + 1)).1 from by rw [sg_classFor_7, if_neg c_4, if_pos c_5, if_neg c_6]) (by omega) (by omega) (lv_sub hl8 [0, 1, 2, 3, 4] rfl)

def sg_daysBetween (P : sg_Pic) (x : Int32) (y : Int32) : Int32 := (if (sg_X5_has P x) = 0 then 0 else (if (sg_X5_has P y) = 0 then 0 else (P 21 (((Int32.toNatClampNeg x) * 5) + (Int32.toNatClampNeg y)))))

set_option maxHeartbeats 4000000 in
set_option maxRecDepth 100000 in
/-- X5_daysBetween -/
theorem c_daysBetween (l : Launch) (D : va_G) (cI cZ cJ : ClassId) (lo sz : Nat) (a : Nat → Nat) (P : sg_Pic) (x : Int32) (y : Int32) (hw : sg_W P) : Met l yX5_daysBetween wsX5_daysBetween ({ frames := 1, cells := 0, slots := 0, locals := 21 }) (Pre lo D cI cZ cJ [.ref (a 2), .int x, .int y] sz [(a 2, .inr (5, [.int (P 0 2), .ref (a 20), .ref (a 21)])), (a 21, .inl (cI, 25, .inl (P 21)))]) (vp_Si (fun r => r = sg_daysBetween P x y)) 0 0 (fun _ => False) := by
  refine Met.ofW (cc := cX5_daysBetween) (maxL := 3) (ret := (some .int)) (by decide) rfl ?_
  intro p e s m args below meth c s₁ B hml hv
  obtain ⟨rfl, hsz, hP, hD0, hC⟩ := hv
  have hx := B.exec
  have hb := B.bytes
  have hr := B.returns
  have hts := atoms_spec (ws := wsX5_daysBetween) B.pre
  have hown : s.vm.findClass RX5 = some m.cls := findClass_of_methodNamed B.named
  have hlocks := B.notSynchronized
  subst hsz
  have hn1 : sg_cn P 1 ≤ 6 := hw.n1
  have hn2 : sg_cn P 2 ≤ 5 := hw.n2
  have hn3 : sg_cn P 3 ≤ 200 := hw.n3
  have hn4 : sg_cn P 4 ≤ 60 := hw.n4
  have hn5 : sg_cn P 5 ≤ 90 := hw.n5
  have hK := hC.K
  have hD := hD0
  have hS : va_S (fun q => lo ≤ q) s.heap s.heap [] := va_S.rf
  have hAlo : ∀ q, (fun q => lo ≤ q) q → lo ≤ q := fun _ h => h
  have hL : ∀ q ∈ ([] : List Loc), (fun _ : Addr => False) q.base := fun q h => by cases h
  have hP : va_P D vwCl [(a 2, .inr (5, [.int (P 0 2), .ref (a 20), .ref (a 21)])), (a 21, .inl (cI, 25, .inl (P 21)))] s.heap := hP
  have hl := lv_entry ([.ref (a 2), .int x, .int y]) (n := 3) (Nat.le_of_ble_eq_true rfl)
  rw [lg_entry_eq]
  generalize (lg_sl ([.ref (a 2), .int x, .int y]) ++ List.replicate (3 - (lg_sl ([.ref (a 2), .int x, .int y])).length) Slot.unset).toArray = ls at hl ⊢
  have hl : lv_has ls 3 [(0, .ref (a 2)), (1, .int x), (2, .int y)] := hl
  have in5 : ∀ w ∈ u_ws RX5 TX5 3, w ∈ wsX5_daysBetween := by decide +kernel
  refine lv_aload_n hx hb dX5_daysBetween_0 rfl (lv_at hl 0 rfl) ?_
  refine lv_iload_n hx hb dX5_daysBetween_1 rfl (lv_at hl 1 rfl) ?_
  have hPc := hP.sub (ws' := [(a 2, .inr (5, [.int (P 0 2), .ref (a 20), .ref (a 21)]))]) [0] rfl
  have hDc := hD.sub (ws' := [(a 2, .inr (5, [.int (P 0 2), .ref (a 20), .ref (a 21)]))]) [0] (by decide) rfl
  refine vp_callSi (W.runV (As := [.int x]) (rest := []) ⟨hx, hb, hml, hown, hts⟩ (c_X5_has l D cI cZ cJ lo s.heap.size a P x) (cwV 1 hts gX5_daysBetween_X5_has rfl rfl rfl (by decide +kernel) ⟨(Nat.le_of_ble_eq_true rfl), (Nat.le_of_ble_eq_true rfl)⟩) ⟨Pre.blind, va_recv hK hP (ci := 5) (q0 := 0) rfl rfl, Pre.mk hPc (hDc.weaken (fun _ _ _ h => hAlo _ h)) hC hS hAlo⟩ rfl rfl hl.1 rfl (lv_room (Nat.le_of_ble_eq_true rfl)) dX5_daysBetween_2 ⟨(Nat.le_of_ble_eq_true rfl), (Nat.le_of_ble_eq_true rfl)⟩) (fun r_1 e_2 => ?_)
  clear hPc hDc
  have e_2 : sg_X5_has P x = r_1 := Eq.symm e_2
  subst e_2
  refine lv_if_eq (tgt := 29) hx hb dX5_daysBetween_5 (by decide) (fun c_3 => ?_) (fun c_3 => ?_)
  · refine lv_iconst (v := 0) hx hb dX5_daysBetween_29 (by decide) ?_
    exact W.iret (v := 0) hx hb hr (fun t ht hW => ⟨0, rfl, (show (0 : Int32) = sg_daysBetween P x y from by rw [sg_daysBetween, if_pos c_3]), ht⟩) hL dX5_daysBetween_30
  · obtain ⟨e_4, le_4⟩ := sg_hasS hw c_3
    have e_4 : (x : Int32) = nI (Int32.toNatClampNeg x) := e_4
    have le_4 : Int32.toNatClampNeg x < sg_cn P 2 := le_4
    replace hl : lv_has ls 3 [(0, .ref (a 2)), (1, .int (nI (Int32.toNatClampNeg x))), (2, .int y)] := by rw [← e_4]; exact hl
    refine lv_aload_n hx hb dX5_daysBetween_8 rfl (lv_at hl 0 rfl) ?_
    refine lv_iload_n hx hb dX5_daysBetween_9 rfl (lv_at hl 2 rfl) ?_
    have hPc := hP.sub (ws' := [(a 2, .inr (5, [.int (P 0 2), .ref (a 20), .ref (a 21)]))]) [0] rfl
    have hDc := hD.sub (ws' := [(a 2, .inr (5, [.int (P 0 2), .ref (a 20), .ref (a 21)]))]) [0] (by decide) rfl
    refine vp_callSi (W.runV (As := [.int y]) (rest := []) ⟨hx, hb, hml, hown, hts⟩ (c_X5_has l D cI cZ cJ lo s.heap.size a P y) (cwV 1 hts gX5_daysBetween_X5_has rfl rfl rfl (by decide +kernel) ⟨(Nat.le_of_ble_eq_true rfl), (Nat.le_of_ble_eq_true rfl)⟩) ⟨Pre.blind, va_recv hK hP (ci := 5) (q0 := 0) rfl rfl, Pre.mk hPc (hDc.weaken (fun _ _ _ h => hAlo _ h)) hC hS hAlo⟩ rfl rfl hl.1 rfl (lv_room (Nat.le_of_ble_eq_true rfl)) dX5_daysBetween_10 ⟨(Nat.le_of_ble_eq_true rfl), (Nat.le_of_ble_eq_true rfl)⟩) (fun r_5 e_6 => ?_)
    clear hPc hDc
    have e_6 : sg_X5_has P y = r_5 := Eq.symm e_6
    subst e_6
    refine lv_if_eq (tgt := 29) hx hb dX5_daysBetween_13 (by decide) (fun c_7 => ?_) (fun c_7 => ?_)
    · refine lv_iconst (v := 0) hx hb dX5_daysBetween_29 (by decide) ?_
      exact W.iret (v := 0) hx hb hr (fun t ht hW => ⟨0, rfl, (show (0 : Int32) = sg_daysBetween P x y from by rw [sg_daysBetween, if_neg c_3, if_pos c_7]), ht⟩) hL dX5_daysBetween_30
    · obtain ⟨e_8, le_8⟩ := sg_hasS hw c_7
      have e_8 : (y : Int32) = nI (Int32.toNatClampNeg y) := e_8
      have le_8 : Int32.toNatClampNeg y < sg_cn P 2 := le_8
      replace hl : lv_has ls 3 [(0, .ref (a 2)), (1, .int (nI (Int32.toNatClampNeg x))), (2, .int (nI (Int32.toNatClampNeg y)))] := by rw [← e_8]; exact hl
      refine lv_aload_n hx hb dX5_daysBetween_16 rfl (lv_at hl 0 rfl) ?_
      refine va_get (D := D) (ci := 5) (v := .ref (a 21)) (C := RX5) (T := TX5) (N := 3) hx hb hts in5 hown hK hP 0 rfl rfl 2 (by decide) (hts (.fieldLink RX5 15 "Granary$Sites" "days" "[I") (by decide +kernel)) (fun _ h9 => h9) rfl dX5_daysBetween_17 ?_
      refine lv_iload_n hx hb dX5_daysBetween_20 rfl (lv_at hl 1 rfl) ?_
      refine lv_iload_n hx hb dX5_daysBetween_21 rfl (lv_at hl 2 rfl) ?_
      have hPc := hP.sub (ws' := []) [] rfl
      have hDc := hD.sub (ws' := []) [] (by decide) rfl
      refine vp_callSi (sg_dr (va_runSN (As := [.int (nI (Int32.toNatClampNeg x)), .int (nI (Int32.toNatClampNeg y))]) (rest := [.ref (a 21)]) ⟨hx, hb, hml, hown, hts⟩ (c_pair l D cI cZ cJ lo s.heap.size (Int32.toNatClampNeg x) (Int32.toNatClampNeg y)) ⟨va_cnB 2 hts gX5_daysBetween_X8_pair_n26 rfl rfl rfl (hC.nestX5_26) (hts (.initialized RX8) (by decide +kernel)) (by decide +kernel) ⟨(Nat.le_of_ble_eq_true rfl), (Nat.le_of_ble_eq_true rfl)⟩, (hts (.static yX8_pair) (by decide +kernel)), trivial⟩ ⟨Pre.blind, Pre.mk hPc (hDc.weaken (fun _ _ _ h => hAlo _ h)) hC hS hAlo⟩ rfl rfl hl.1 rfl (lv_room (Nat.le_of_ble_eq_true rfl)) dX5_daysBetween_22 ⟨(Nat.le_of_ble_eq_true rfl), (Nat.le_of_ble_eq_true rfl)⟩)) (fun r_9 e_10 => ?_)
      clear hPc hDc
      have e_10 : nI (((Int32.toNatClampNeg x) * 5) + (Int32.toNatClampNeg y)) = r_9 := Eq.symm e_10
      subst e_10
      refine sg_iald hx hb hK hP 1 0 rfl rfl (j := ((Int32.toNatClampNeg x) * 5) + (Int32.toNatClampNeg y)) rfl (by omega) (Nat.le_of_ble_eq_true rfl) dX5_daysBetween_25 ?_
      refine lv_toi (y := P 21 (((Int32.toNatClampNeg x) * 5) + (Int32.toNatClampNeg y))) rfl ?_
      refine lv_goto (tgt := 30) hx hb dX5_daysBetween_26 (by decide) ?_
      exact W.iret (v := (P 21 (((Int32.toNatClampNeg x) * 5) + (Int32.toNatClampNeg y)))) hx hb hr (fun t ht hW => ⟨(P 21 (((Int32.toNatClampNeg x) * 5) + (Int32.toNatClampNeg y))), rfl, (show (P 21 (((Int32.toNatClampNeg x) * 5) + (Int32.toNatClampNeg y)) : Int32) = sg_daysBetween P x y from by rw [sg_daysBetween, if_neg c_3, if_neg c_7]), ht⟩) hL dX5_daysBetween_30

def sg_firstFree_6 (P : sg_Pic) (x : Int32) (y : Int32) (z : Int32) : Nat → Int32
  | 0 => (-1)
  | j6 + 1 => (if (P 40 j6) = x then (if (P 41 j6) = y then (if (P 44 j6) < z then (sg_firstFree_6 P x y z j6) else (if (sg_freeOf P j6) ≤ 0 then (sg_firstFree_6 P x y z j6) else (if (sg_firstFree_6 P x y z j6) = (-1) then (nI j6) else (if ((P 44) (Int32.toNatClampNeg (sg_firstFree_6 P x y z j6))) ≤ (P 44 j6) then (sg_firstFree_6 P x y z j6) else (nI j6))))) else (sg_firstFree_6 P x y z j6)) else (sg_firstFree_6 P x y z j6))

def sg_firstFree (P : sg_Pic) (x : Int32) (y : Int32) (z : Int32) : Int32 := (sg_firstFree_6 P x y z (sg_cn P 3))

theorem sg_firstFree_R (P : sg_Pic) (x y z : Int32) : ∀ j, sg_firstFree_6 P x y z j = -1 ∨ ∃ f, f < j ∧ sg_firstFree_6 P x y z j = nI f
  | 0 => Or.inl rfl
  | j + 1 => by
    have h := sg_firstFree_R P x y z j
    have h1 : sg_firstFree_6 P x y z j = -1 ∨ ∃ f, f < j + 1 ∧ sg_firstFree_6 P x y z j = nI f := by
      rcases h with h | ⟨f, hf, h⟩
      · exact Or.inl h
      · exact Or.inr ⟨f, by omega, h⟩
    rw [sg_firstFree_6]
    repeat' split
    all_goals first | exact h1 | exact Or.inr ⟨j, by omega, rfl⟩
theorem sg_ffin {P : sg_Pic} {x y z v : Int32} {j : Nat} (h : v = sg_firstFree_6 P x y z j) (hj : j ≤ 200) (c : ¬ (v = -1)) : vp_in v 200 := by
  rcases sg_firstFree_R P x y z j with q | ⟨f, hf, q⟩
  · exact absurd (h.trans q) c
  · rw [h, q]
    exact vp_in_nI (by omega) (by decide)

set_option maxHeartbeats 4000000 in
set_option maxRecDepth 100000 in
/-- X1_firstFree -/
theorem c_firstFree (l : Launch) (D : va_G) (cI cZ cJ : ClassId) (lo sz : Nat) (a : Nat → Nat) (P : sg_Pic) (x : Int32) (y : Int32) (z : Int32) (hw : sg_W P) : Met l yX1_firstFree wsX1_firstFree ({ frames := 1, cells := 0, slots := 0, locals := 21 }) (Pre lo D cI cZ cJ [.ref (a 4), .int x, .int y, .int z] sz [(a 4, .inr (1, [.int (P 0 3), .ref (a 40), .ref (a 41), .ref (a 42), .ref (a 43), .ref (a 44)])), (a 40, .inl (cI, 200, .inl (P 40))), (a 41, .inl (cI, 200, .inl (P 41))), (a 42, .inl (cI, 200, .inl (P 42))), (a 43, .inl (cI, 200, .inl (P 43))), (a 44, .inl (cI, 200, .inl (P 44)))]) (vp_Si (fun r => r = sg_firstFree P x y z)) 0 0 (fun _ => False) := by
  refine Met.ofW (cc := cX1_firstFree) (maxL := 6) (ret := (some .int)) (by decide) rfl ?_
  intro p e s m args below meth c s₁ B hml hv
  obtain ⟨rfl, hsz, hP, hD0, hC⟩ := hv
  have hx := B.exec
  have hb := B.bytes
  have hr := B.returns
  have hts := atoms_spec (ws := wsX1_firstFree) B.pre
  have hown : s.vm.findClass RX1 = some m.cls := findClass_of_methodNamed B.named
  have hlocks := B.notSynchronized
  subst hsz
  have hn1 : sg_cn P 1 ≤ 6 := hw.n1
  have hn2 : sg_cn P 2 ≤ 5 := hw.n2
  have hn3 : sg_cn P 3 ≤ 200 := hw.n3
  have hn4 : sg_cn P 4 ≤ 60 := hw.n4
  have hn5 : sg_cn P 5 ≤ 90 := hw.n5
  have hK := hC.K
  have hD := hD0
  have hS : va_S (fun q => lo ≤ q) s.heap s.heap [] := va_S.rf
  have hAlo : ∀ q, (fun q => lo ≤ q) q → lo ≤ q := fun _ h => h
  have hL : ∀ q ∈ ([] : List Loc), (fun _ : Addr => False) q.base := fun q h => by cases h
  have hP : va_P D vwCl [(a 4, .inr (1, [.int (P 0 3), .ref (a 40), .ref (a 41), .ref (a 42), .ref (a 43), .ref (a 44)])), (a 40, .inl (cI, 200, .inl (P 40))), (a 41, .inl (cI, 200, .inl (P 41))), (a 42, .inl (cI, 200, .inl (P 42))), (a 43, .inl (cI, 200, .inl (P 43))), (a 44, .inl (cI, 200, .inl (P 44)))] s.heap := hP
  have hl := lv_entry ([.ref (a 4), .int x, .int y, .int z]) (n := 6) (Nat.le_of_ble_eq_true rfl)
  rw [lg_entry_eq]
  generalize (lg_sl ([.ref (a 4), .int x, .int y, .int z]) ++ List.replicate (6 - (lg_sl ([.ref (a 4), .int x, .int y, .int z])).length) Slot.unset).toArray = ls at hl ⊢
  have hl : lv_has ls 6 [(0, .ref (a 4)), (1, .int x), (2, .int y), (3, .int z)] := hl
  have in1 : ∀ w ∈ u_ws RX1 TX1 6, w ∈ wsX1_firstFree := by decide +kernel
  refine lv_iconst (v := (-1)) hx hb dX1_firstFree_0 (by decide) ?_
  refine lv_istore (lv' := [(4, .int (-1)), (0, .ref (a 4)), (1, .int x), (2, .int y), (3, .int z)]) hx hb dX1_firstFree_1 hl (by decide) rfl (fun ls hl => ?_)
  refine lv_iconst (v := 0) hx hb dX1_firstFree_3 (by decide) ?_
  refine lv_istore (lv' := [(5, .int 0), (4, .int (-1)), (0, .ref (a 4)), (1, .int x), (2, .int y), (3, .int z)]) hx hb dX1_firstFree_4 hl (by decide) rfl (fun ls hl => ?_)
  obtain ⟨j6, h0j6⟩ : ∃ j : Nat, j = 0 := ⟨_, rfl⟩
  obtain ⟨x6_4, hx6_4⟩ : ∃ z9 : Int32, z9 = sg_firstFree_6 P x y z j6 := ⟨_, rfl⟩
  replace hl : lv_has ls 6 [(5, .int (nI j6)), (4, .int x6_4), (0, .ref (a 4)), (1, .int x), (2, .int y), (3, .int z)] := by rw [hx6_4, h0j6]; exact hl
  have hjj6 : j6 ≤ sg_cn P 3 := by omega
  clear h0j6
  obtain ⟨n6, hn6⟩ : ∃ n : Nat, sg_cn P 3 < j6 + n := ⟨sg_cn P 3 + 1, by omega⟩
  revert hl
  revert hn6
  revert hjj6
  revert hx6_4
  revert ls
  revert x6_4
  revert j6
  induction n6 with
  | zero =>
    intro j6 x6_4 ls hx6_4 hjj6 hn6 hl
    exact absurd hn6 (by omega)
  | succ n6 ih6 =>
    intro j6 x6_4 ls hx6_4 hjj6 hn6 hl
    refine lv_iload hx hb dX1_firstFree_6 (lv_at hl 0 rfl) ?_
    refine lv_aload_n hx hb dX1_firstFree_8 rfl (lv_at hl 2 rfl) ?_
    refine va_get (D := D) (ci := 1) (v := .int (P 0 3)) (C := RX1) (T := TX1) (N := 6) hx hb hts in1 hown hK hP 0 rfl rfl 0 (by decide) (hts (.fieldLink RX1 27 "Granary$Lots" "count" "I") (by decide +kernel)) (fun _ h9 => h9) rfl dX1_firstFree_9 ?_
    have hB6 : ((P 0 3) : Int32) = nI (sg_cn P 3) := (hw.e3)
    refine lv_icmp_ge (tgt := 90) hx hb dX1_firstFree_12 (by decide) (fun c_1 => ?_) (fun c_1 => ?_)
    · have hE6 : j6 = sg_cn P 3 := sg_eq hB6 c_1 hjj6 (by omega)
      clear ih6 hn6
      subst hE6
      subst hx6_4
      refine lv_iload hx hb dX1_firstFree_90 (lv_at hl 1 rfl) ?_
      exact W.iret (v := (sg_firstFree_6 P x y z (sg_cn P 3))) hx hb hr (fun t ht hW => ⟨(sg_firstFree_6 P x y z (sg_cn P 3)), rfl, rfl, ht⟩) hL dX1_firstFree_92
    · have hL6 : j6 < sg_cn P 3 := sg_lt hB6 c_1 (by omega)
      refine lv_aload_n hx hb dX1_firstFree_15 rfl (lv_at hl 2 rfl) ?_
      refine va_get (D := D) (ci := 1) (v := .ref (a 40)) (C := RX1) (T := TX1) (N := 6) hx hb hts in1 hown hK hP 0 rfl rfl 1 (by decide) (hts (.fieldLink RX1 9 "Granary$Lots" "item" "[I") (by decide +kernel)) (fun _ h9 => h9) rfl dX1_firstFree_16 ?_
      refine lv_iload hx hb dX1_firstFree_19 (lv_at hl 0 rfl) ?_
      refine sg_iald hx hb hK hP 1 0 rfl rfl (j := j6) rfl (by omega) (Nat.le_of_ble_eq_true rfl) dX1_firstFree_21 ?_
      refine lv_toi (y := P 40 j6) rfl ?_
      refine lv_iload_n hx hb dX1_firstFree_22 rfl (lv_at hl 3 rfl) ?_
      refine lv_icmp_ne (tgt := 84) hx hb dX1_firstFree_23 (by decide) (fun c_2 => ?_) (fun c_2 => ?_)
      · refine lv_iinc (v := nI (j6 + 1)) (lv' := [(5, .int (nI (j6 + 1))), (4, .int x6_4), (0, .ref (a 4)), (1, .int x), (2, .int y), (3, .int z)]) hx hb dX1_firstFree_84 hl (k := 0) rfl (nI_1 j6) (by decide) rfl (fun ls hl => ?_)
        refine lv_goto (tgt := 6) hx hb dX1_firstFree_87 (by decide) ?_
        have hl8 := hl
        subst hx6_4
        exact ih6 (j6 + 1) (sg_firstFree_6 P x y z j6) _ (show ((sg_firstFree_6 P x y z j6) : Int32) = sg_firstFree_6 P x y z (j6 + 1) from by rw [sg_firstFree_6, if_neg c_2]) (by omega) (by omega) (lv_sub hl8 [0, 1, 2, 3, 4, 5] rfl)
      · refine lv_aload_n hx hb dX1_firstFree_26 rfl (lv_at hl 2 rfl) ?_
        refine va_get (D := D) (ci := 1) (v := .ref (a 41)) (C := RX1) (T := TX1) (N := 6) hx hb hts in1 hown hK hP 0 rfl rfl 2 (by decide) (hts (.fieldLink RX1 15 "Granary$Lots" "site" "[I") (by decide +kernel)) (fun _ h9 => h9) rfl dX1_firstFree_27 ?_
        refine lv_iload hx hb dX1_firstFree_30 (lv_at hl 0 rfl) ?_
        refine sg_iald hx hb hK hP 2 0 rfl rfl (j := j6) rfl (by omega) (Nat.le_of_ble_eq_true rfl) dX1_firstFree_32 ?_
        refine lv_toi (y := P 41 j6) rfl ?_
        refine lv_iload_n hx hb dX1_firstFree_33 rfl (lv_at hl 4 rfl) ?_
        refine lv_icmp_ne (tgt := 84) hx hb dX1_firstFree_34 (by decide) (fun c_3 => ?_) (fun c_3 => ?_)
        · refine lv_iinc (v := nI (j6 + 1)) (lv' := [(5, .int (nI (j6 + 1))), (4, .int x6_4), (0, .ref (a 4)), (1, .int x), (2, .int y), (3, .int z)]) hx hb dX1_firstFree_84 hl (k := 0) rfl (nI_1 j6) (by decide) rfl (fun ls hl => ?_)
          refine lv_goto (tgt := 6) hx hb dX1_firstFree_87 (by decide) ?_
          have hl8 := hl
          subst hx6_4
          exact ih6 (j6 + 1) (sg_firstFree_6 P x y z j6) _ (show ((sg_firstFree_6 P x y z j6) : Int32) = sg_firstFree_6 P x y z (j6 + 1) from by rw [sg_firstFree_6, if_pos c_2, if_neg c_3]) (by omega) (by omega) (lv_sub hl8 [0, 1, 2, 3, 4, 5] rfl)
        · refine lv_aload_n hx hb dX1_firstFree_37 rfl (lv_at hl 2 rfl) ?_
          refine va_get (D := D) (ci := 1) (v := .ref (a 44)) (C := RX1) (T := TX1) (N := 6) hx hb hts in1 hown hK hP 0 rfl rfl 5 (by decide) (hts (.fieldLink RX1 24 "Granary$Lots" "last" "[I") (by decide +kernel)) (fun _ h9 => h9) rfl dX1_firstFree_38 ?_
          refine lv_iload hx hb dX1_firstFree_41 (lv_at hl 0 rfl) ?_
          refine sg_iald hx hb hK hP 5 0 rfl rfl (j := j6) rfl (by omega) (Nat.le_of_ble_eq_true rfl) dX1_firstFree_43 ?_
          refine lv_toi (y := P 44 j6) rfl ?_
          refine lv_iload_n hx hb dX1_firstFree_44 rfl (lv_at hl 5 rfl) ?_
          refine lv_icmp_lt (tgt := 84) hx hb dX1_firstFree_45 (by decide) (fun c_4 => ?_) (fun c_4 => ?_)
          · refine lv_iinc (v := nI (j6 + 1)) (lv' := [(5, .int (nI (j6 + 1))), (4, .int x6_4), (0, .ref (a 4)), (1, .int x), (2, .int y), (3, .int z)]) hx hb dX1_firstFree_84 hl (k := 0) rfl (nI_1 j6) (by decide) rfl (fun ls hl => ?_)
            refine lv_goto (tgt := 6) hx hb dX1_firstFree_87 (by decide) ?_
            have hl8 := hl
            subst hx6_4
            exact ih6 (j6 + 1) (sg_firstFree_6 P x y z j6) _ (show ((sg_firstFree_6 P x y z j6) : Int32) = sg_firstFree_6 P x y z (j6 + 1) from by rw [sg_firstFree_6, if_pos c_2, if_pos c_3, if_pos c_4]) (by omega) (by omega) (lv_sub hl8 [0, 1, 2, 3, 4, 5] rfl)
          · refine lv_aload_n hx hb dX1_firstFree_48 rfl (lv_at hl 2 rfl) ?_
            refine lv_iload hx hb dX1_firstFree_49 (lv_at hl 0 rfl) ?_
            have hPc := hP.sub (ws' := [(a 4, .inr (1, [.int (P 0 3), .ref (a 40), .ref (a 41), .ref (a 42), .ref (a 43), .ref (a 44)])), (a 42, .inl (cI, 200, .inl (P 42))), (a 43, .inl (cI, 200, .inl (P 43)))]) [0, 3, 4] rfl
            have hDc := hD.sub (ws' := [(a 4, .inr (1, [.int (P 0 3), .ref (a 40), .ref (a 41), .ref (a 42), .ref (a 43), .ref (a 44)])), (a 42, .inl (cI, 200, .inl (P 42))), (a 43, .inl (cI, 200, .inl (P 43)))]) [0, 3, 4] (by decide) rfl
            refine vp_callSi (W.runV (As := [.int (nI j6)]) (rest := []) ⟨hx, hb, hml, hown, hts⟩ (c_freeOf l D cI cZ cJ lo s.heap.size a P j6 (by omega)) (cwV 1 hts gX1_firstFree_X1_freeOf rfl rfl rfl (by decide +kernel) ⟨(Nat.le_of_ble_eq_true rfl), (Nat.le_of_ble_eq_true rfl)⟩) ⟨Pre.blind, va_recv hK hP (ci := 1) (q0 := 0) rfl rfl, Pre.mk hPc (hDc.weaken (fun _ _ _ h => hAlo _ h)) hC hS hAlo⟩ rfl rfl hl.1 rfl (lv_room (Nat.le_of_ble_eq_true rfl)) dX1_firstFree_51 ⟨(Nat.le_of_ble_eq_true rfl), (Nat.le_of_ble_eq_true rfl)⟩) (fun r_5 e_6 => ?_)
            clear hPc hDc
            have e_6 : sg_freeOf P j6 = r_5 := Eq.symm e_6
            subst e_6
            refine lv_if_le (tgt := 84) hx hb dX1_firstFree_54 (by decide) (fun c_7 => ?_) (fun c_7 => ?_)
            · refine lv_iinc (v := nI (j6 + 1)) (lv' := [(5, .int (nI (j6 + 1))), (4, .int x6_4), (0, .ref (a 4)), (1, .int x), (2, .int y), (3, .int z)]) hx hb dX1_firstFree_84 hl (k := 0) rfl (nI_1 j6) (by decide) rfl (fun ls hl => ?_)
              refine lv_goto (tgt := 6) hx hb dX1_firstFree_87 (by decide) ?_
              have hl8 := hl
              subst hx6_4
              exact ih6 (j6 + 1) (sg_firstFree_6 P x y z j6) _ (show ((sg_firstFree_6 P x y z j6) : Int32) = sg_firstFree_6 P x y z (j6 + 1) from by rw [sg_firstFree_6, if_pos c_2, if_pos c_3, if_neg c_4, if_pos c_7]) (by omega) (by omega) (lv_sub hl8 [0, 1, 2, 3, 4, 5] rfl)
            · refine lv_iload hx hb dX1_firstFree_57 (lv_at hl 1 rfl) ?_
              refine lv_iconst (v := (-1)) hx hb dX1_firstFree_59 (by decide) ?_
              refine lv_icmp_eq (tgt := 80) hx hb dX1_firstFree_60 (by decide) (fun c_8 => ?_) (fun c_8 => ?_)
              · refine lv_iload hx hb dX1_firstFree_80 (lv_at hl 0 rfl) ?_
                refine lv_istore (lv' := [(4, .int (nI j6)), (5, .int (nI j6)), (0, .ref (a 4)), (1, .int x), (2, .int y), (3, .int z)]) hx hb dX1_firstFree_82 hl (by decide) rfl (fun ls hl => ?_)
                refine lv_iinc (v := nI (j6 + 1)) (lv' := [(5, .int (nI (j6 + 1))), (4, .int (nI j6)), (0, .ref (a 4)), (1, .int x), (2, .int y), (3, .int z)]) hx hb dX1_firstFree_84 hl (k := 1) rfl (nI_1 j6) (by decide) rfl (fun ls hl => ?_)
                refine lv_goto (tgt := 6) hx hb dX1_firstFree_87 (by decide) ?_
                have hl8 := hl
                subst hx6_4
                exact ih6 (j6 + 1) (nI j6) _ (show (nI j6 : Int32) = sg_firstFree_6 P x y z (j6 + 1) from by rw [sg_firstFree_6, if_pos c_2, if_pos c_3, if_neg c_4, if_neg c_7, if_pos c_8]) (by omega) (by omega) (lv_sub hl8 [0, 1, 2, 3, 4, 5] rfl)
              · refine lv_aload_n hx hb dX1_firstFree_63 rfl (lv_at hl 2 rfl) ?_
                refine va_get (D := D) (ci := 1) (v := .ref (a 44)) (C := RX1) (T := TX1) (N := 6) hx hb hts in1 hown hK hP 0 rfl rfl 5 (by decide) (hts (.fieldLink RX1 24 "Granary$Lots" "last" "[I") (by decide +kernel)) (fun _ h9 => h9) rfl dX1_firstFree_64 ?_
                refine lv_iload hx hb dX1_firstFree_67 (lv_at hl 0 rfl) ?_
                refine sg_iald hx hb hK hP 5 0 rfl rfl (j := j6) rfl (by omega) (Nat.le_of_ble_eq_true rfl) dX1_firstFree_69 ?_
                refine lv_toi (y := P 44 j6) rfl ?_
                refine lv_aload_n hx hb dX1_firstFree_70 rfl (lv_at hl 2 rfl) ?_
                refine va_get (D := D) (ci := 1) (v := .ref (a 44)) (C := RX1) (T := TX1) (N := 6) hx hb hts in1 hown hK hP 0 rfl rfl 5 (by decide) (hts (.fieldLink RX1 24 "Granary$Lots" "last" "[I") (by decide +kernel)) (fun _ h9 => h9) rfl dX1_firstFree_71 ?_
                refine lv_iload hx hb dX1_firstFree_74 (lv_at hl 1 rfl) ?_
                refine va_iald hx hb hK hP 5 0 rfl rfl (sg_ffin hx6_4 (by omega) c_8) dX1_firstFree_76 ?_
                refine lv_icmp_ge (tgt := 84) hx hb dX1_firstFree_77 (by decide) (fun c_9 => ?_) (fun c_9 => ?_)
                · refine lv_iinc (v := nI (j6 + 1)) (lv' := [(5, .int (nI (j6 + 1))), (4, .int x6_4), (0, .ref (a 4)), (1, .int x), (2, .int y), (3, .int z)]) hx hb dX1_firstFree_84 hl (k := 0) rfl (nI_1 j6) (by decide) rfl (fun ls hl => ?_)
                  refine lv_goto (tgt := 6) hx hb dX1_firstFree_87 (by decide) ?_
                  have hl8 := hl
                  subst hx6_4
                  exact ih6 (j6 + 1) (sg_firstFree_6 P x y z j6) _ (show ((sg_firstFree_6 P x y z j6) : Int32) = sg_firstFree_6 P x y z (j6 + 1) from by rw [sg_firstFree_6, if_pos c_2, if_pos c_3, if_neg c_4, if_neg c_7, if_neg c_8, if_pos c_9]) (by omega) (by omega) (lv_sub hl8 [0, 1, 2, 3, 4, 5] rfl)
                · refine lv_iload hx hb dX1_firstFree_80 (lv_at hl 0 rfl) ?_
                  refine lv_istore (lv' := [(4, .int (nI j6)), (5, .int (nI j6)), (0, .ref (a 4)), (1, .int x), (2, .int y), (3, .int z)]) hx hb dX1_firstFree_82 hl (by decide) rfl (fun ls hl => ?_)
                  refine lv_iinc (v := nI (j6 + 1)) (lv' := [(5, .int (nI (j6 + 1))), (4, .int (nI j6)), (0, .ref (a 4)), (1, .int x), (2, .int y), (3, .int z)]) hx hb dX1_firstFree_84 hl (k := 1) rfl (nI_1 j6) (by decide) rfl (fun ls hl => ?_)
                  refine lv_goto (tgt := 6) hx hb dX1_firstFree_87 (by decide) ?_
                  have hl8 := hl
                  subst hx6_4
                  exact ih6 (j6 + 1) (nI j6) _ (show (nI j6 : Int32) = sg_firstFree_6 P x y z (j6 + 1) from by rw [sg_firstFree_6, if_pos c_2, if_pos c_3, if_neg c_4, if_neg c_7, if_neg c_8, if_neg c_9]) (by omega) (by omega) (lv_sub hl8 [0, 1, 2, 3, 4, 5] rfl)

theorem sg_ff {P : sg_Pic} {x y z : Int32} (hw : sg_W P) (c : ¬ (sg_firstFree P x y z = -1)) : sg_firstFree P x y z = nI (Int32.toNatClampNeg (sg_firstFree P x y z)) ∧ Int32.toNatClampNeg (sg_firstFree P x y z) < sg_cn P 3 := by
  have h3 := hw.n3
  unfold sg_firstFree at c ⊢
  rcases sg_firstFree_R P x y z (sg_cn P 3) with q | ⟨f, hf, q⟩
  · exact absurd q c
  · rw [q, nI_clamp (by omega)]
    exact ⟨rfl, hf⟩

def sg_ltell (P : sg_Pic) (xl : Nat) (xw : Nat) : Int32 := (if xw = 0 then (P 40 xl) else (if xw = 1 then (P 41 xl) else (if xw = 2 then (P 42 xl) else (if xw = 3 then (P 43 xl) else (P 44 xl)))))

set_option maxHeartbeats 4000000 in
set_option maxRecDepth 100000 in
/-- X1_tell -/
theorem c_ltell (l : Launch) (D : va_G) (cI cZ cJ : ClassId) (lo sz : Nat) (a : Nat → Nat) (P : sg_Pic) (xl : Nat) (xw : Nat) (hl0 : xl < 200) (hx0 : xw < 5) : Met l yX1_tell wsX1_tell ({ frames := 0, cells := 0, slots := 0, locals := 0 }) (Pre lo D cI cZ cJ [.ref (a 4), .int (nI xl), .int (nI xw)] sz [(a 4, .inr (1, [.int (P 0 3), .ref (a 40), .ref (a 41), .ref (a 42), .ref (a 43), .ref (a 44)])), (a 40, .inl (cI, 200, .inl (P 40))), (a 41, .inl (cI, 200, .inl (P 41))), (a 42, .inl (cI, 200, .inl (P 42))), (a 43, .inl (cI, 200, .inl (P 43))), (a 44, .inl (cI, 200, .inl (P 44)))]) (vp_Si (fun r => r = sg_ltell P xl xw)) 0 0 (fun _ => False) := by
  refine Met.ofW (cc := cX1_tell) (maxL := 3) (ret := (some .int)) (by decide) rfl ?_
  intro p e s m args below meth c s₁ B hml hv
  obtain ⟨rfl, hsz, hP, hD0, hC⟩ := hv
  have hx := B.exec
  have hb := B.bytes
  have hr := B.returns
  have hts := atoms_spec (ws := wsX1_tell) B.pre
  have hown : s.vm.findClass RX1 = some m.cls := findClass_of_methodNamed B.named
  have hlocks := B.notSynchronized
  subst hsz
  have hK := hC.K
  have hD := hD0
  have hS : va_S (fun q => lo ≤ q) s.heap s.heap [] := va_S.rf
  have hAlo : ∀ q, (fun q => lo ≤ q) q → lo ≤ q := fun _ h => h
  have hL : ∀ q ∈ ([] : List Loc), (fun _ : Addr => False) q.base := fun q h => by cases h
  have hP : va_P D vwCl [(a 4, .inr (1, [.int (P 0 3), .ref (a 40), .ref (a 41), .ref (a 42), .ref (a 43), .ref (a 44)])), (a 40, .inl (cI, 200, .inl (P 40))), (a 41, .inl (cI, 200, .inl (P 41))), (a 42, .inl (cI, 200, .inl (P 42))), (a 43, .inl (cI, 200, .inl (P 43))), (a 44, .inl (cI, 200, .inl (P 44)))] s.heap := hP
  have hl := lv_entry ([.ref (a 4), .int (nI xl), .int (nI xw)]) (n := 3) (Nat.le_of_ble_eq_true rfl)
  rw [lg_entry_eq]
  generalize (lg_sl ([.ref (a 4), .int (nI xl), .int (nI xw)]) ++ List.replicate (3 - (lg_sl ([.ref (a 4), .int (nI xl), .int (nI xw)])).length) Slot.unset).toArray = ls at hl ⊢
  have hl : lv_has ls 3 [(0, .ref (a 4)), (1, .int (nI xl)), (2, .int (nI xw))] := hl
  have in1 : ∀ w ∈ u_ws RX1 TX1 6, w ∈ wsX1_tell := by decide +kernel
  refine lv_iload_n hx hb dX1_tell_0 rfl (lv_at hl 2 rfl) ?_
  by_cases c_1 : xw = 0
  · refine lv_tableIn (x := nI xw) (tgt := 32) (off := 31) hx hb dX1_tell_1 (by rw [c_1]; decide) (by rw [c_1]; decide) (by rw [c_1]; decide +kernel) (by decide) ?_
    refine lv_aload_n hx hb dX1_tell_32 rfl (lv_at hl 0 rfl) ?_
    refine va_get (D := D) (ci := 1) (v := .ref (a 40)) (C := RX1) (T := TX1) (N := 6) hx hb hts in1 hown hK hP 0 rfl rfl 1 (by decide) (hts (.fieldLink RX1 9 "Granary$Lots" "item" "[I") (by decide +kernel)) (fun _ h9 => h9) rfl dX1_tell_33 ?_
    refine lv_iload_n hx hb dX1_tell_36 rfl (lv_at hl 1 rfl) ?_
    refine sg_iald hx hb hK hP 1 0 rfl rfl (j := xl) rfl (by omega) (Nat.le_of_ble_eq_true rfl) dX1_tell_37 ?_
    refine lv_toi (y := P 40 xl) rfl ?_
    exact W.iret (v := (P 40 xl)) hx hb hr (fun t ht hW => ⟨(P 40 xl), rfl, (show (P 40 xl : Int32) = sg_ltell P xl xw from by rw [sg_ltell, if_pos c_1]), ht⟩) hL dX1_tell_38
  · by_cases c_2 : xw = 1
    · refine lv_tableIn (x := nI xw) (tgt := 39) (off := 38) hx hb dX1_tell_1 (by rw [c_2]; decide) (by rw [c_2]; decide) (by rw [c_2]; decide +kernel) (by decide) ?_
      refine lv_aload_n hx hb dX1_tell_39 rfl (lv_at hl 0 rfl) ?_
      refine va_get (D := D) (ci := 1) (v := .ref (a 41)) (C := RX1) (T := TX1) (N := 6) hx hb hts in1 hown hK hP 0 rfl rfl 2 (by decide) (hts (.fieldLink RX1 15 "Granary$Lots" "site" "[I") (by decide +kernel)) (fun _ h9 => h9) rfl dX1_tell_40 ?_
      refine lv_iload_n hx hb dX1_tell_43 rfl (lv_at hl 1 rfl) ?_
      refine sg_iald hx hb hK hP 2 0 rfl rfl (j := xl) rfl (by omega) (Nat.le_of_ble_eq_true rfl) dX1_tell_44 ?_
      refine lv_toi (y := P 41 xl) rfl ?_
      exact W.iret (v := (P 41 xl)) hx hb hr (fun t ht hW => ⟨(P 41 xl), rfl, (show (P 41 xl : Int32) = sg_ltell P xl xw from by rw [sg_ltell, if_neg c_1, if_pos c_2]), ht⟩) hL dX1_tell_45
    · by_cases c_3 : xw = 2
      · refine lv_tableIn (x := nI xw) (tgt := 46) (off := 45) hx hb dX1_tell_1 (by rw [c_3]; decide) (by rw [c_3]; decide) (by rw [c_3]; decide +kernel) (by decide) ?_
        refine lv_aload_n hx hb dX1_tell_46 rfl (lv_at hl 0 rfl) ?_
        refine va_get (D := D) (ci := 1) (v := .ref (a 42)) (C := RX1) (T := TX1) (N := 6) hx hb hts in1 hown hK hP 0 rfl rfl 3 (by decide) (hts (.fieldLink RX1 18 "Granary$Lots" "units" "[I") (by decide +kernel)) (fun _ h9 => h9) rfl dX1_tell_47 ?_
        refine lv_iload_n hx hb dX1_tell_50 rfl (lv_at hl 1 rfl) ?_
        refine sg_iald hx hb hK hP 3 0 rfl rfl (j := xl) rfl (by omega) (Nat.le_of_ble_eq_true rfl) dX1_tell_51 ?_
        refine lv_toi (y := P 42 xl) rfl ?_
        exact W.iret (v := (P 42 xl)) hx hb hr (fun t ht hW => ⟨(P 42 xl), rfl, (show (P 42 xl : Int32) = sg_ltell P xl xw from by rw [sg_ltell, if_neg c_1, if_neg c_2, if_pos c_3]), ht⟩) hL dX1_tell_52
      · by_cases c_4 : xw = 3
        · refine lv_tableIn (x := nI xw) (tgt := 53) (off := 52) hx hb dX1_tell_1 (by rw [c_4]; decide) (by rw [c_4]; decide) (by rw [c_4]; decide +kernel) (by decide) ?_
          refine lv_aload_n hx hb dX1_tell_53 rfl (lv_at hl 0 rfl) ?_
          refine va_get (D := D) (ci := 1) (v := .ref (a 43)) (C := RX1) (T := TX1) (N := 6) hx hb hts in1 hown hK hP 0 rfl rfl 4 (by decide) (hts (.fieldLink RX1 21 "Granary$Lots" "reserved" "[I") (by decide +kernel)) (fun _ h9 => h9) rfl dX1_tell_54 ?_
          refine lv_iload_n hx hb dX1_tell_57 rfl (lv_at hl 1 rfl) ?_
          refine sg_iald hx hb hK hP 4 0 rfl rfl (j := xl) rfl (by omega) (Nat.le_of_ble_eq_true rfl) dX1_tell_58 ?_
          refine lv_toi (y := P 43 xl) rfl ?_
          exact W.iret (v := (P 43 xl)) hx hb hr (fun t ht hW => ⟨(P 43 xl), rfl, (show (P 43 xl : Int32) = sg_ltell P xl xw from by rw [sg_ltell, if_neg c_1, if_neg c_2, if_neg c_3, if_pos c_4]), ht⟩) hL dX1_tell_59
        · refine lv_tableOut (tgt := 60) hx hb dX1_tell_1 (Or.inr (by rw [nI_toInt (by omega)]; omega)) (by decide) ?_
          refine lv_aload_n hx hb dX1_tell_60 rfl (lv_at hl 0 rfl) ?_
          refine va_get (D := D) (ci := 1) (v := .ref (a 44)) (C := RX1) (T := TX1) (N := 6) hx hb hts in1 hown hK hP 0 rfl rfl 5 (by decide) (hts (.fieldLink RX1 24 "Granary$Lots" "last" "[I") (by decide +kernel)) (fun _ h9 => h9) rfl dX1_tell_61 ?_
          refine lv_iload_n hx hb dX1_tell_64 rfl (lv_at hl 1 rfl) ?_
          refine sg_iald hx hb hK hP 5 0 rfl rfl (j := xl) rfl (by omega) (Nat.le_of_ble_eq_true rfl) dX1_tell_65 ?_
          refine lv_toi (y := P 44 xl) rfl ?_
          exact W.iret (v := (P 44 xl)) hx hb hr (fun t ht hW => ⟨(P 44 xl), rfl, (show (P 44 xl : Int32) = sg_ltell P xl xw from by rw [sg_ltell, if_neg c_1, if_neg c_2, if_neg c_3, if_neg c_4]), ht⟩) hL dX1_tell_66

def sg_otell (P : sg_Pic) (xl : Nat) (xw : Nat) : Int32 := (if xw = 0 then (P 57 xl) else (if xw = 1 then (P 52 xl) else (if xw = 2 then (P 53 xl) else (if xw = 3 then (P 54 xl) else (P 58 xl)))))

set_option maxHeartbeats 4000000 in
set_option maxRecDepth 100000 in
/-- X2_tell -/
theorem c_otell (l : Launch) (D : va_G) (cI cZ cJ : ClassId) (lo sz : Nat) (a : Nat → Nat) (P : sg_Pic) (xl : Nat) (xw : Nat) (hl0 : xl < 60) (hx0 : xw < 5) : Met l yX2_tell wsX2_tell ({ frames := 0, cells := 0, slots := 0, locals := 0 }) (Pre lo D cI cZ cJ [.ref (a 5), .int (nI xl), .int (nI xw)] sz [(a 5, .inr (2, [.int (P 0 4), .ref (a 50), .ref (a 51), .ref (a 52), .ref (a 53), .ref (a 54), .ref (a 55), .ref (a 56), .ref (a 57), .ref (a 58), .ref (a 59)])), (a 50, .inl (cI, 60, .inl (P 50))), (a 51, .inl (cI, 60, .inl (P 51))), (a 52, .inl (cI, 60, .inl (P 52))), (a 53, .inl (cI, 60, .inl (P 53))), (a 54, .inl (cI, 60, .inl (P 54))), (a 55, .inl (cI, 60, .inl (P 55))), (a 56, .inl (cI, 60, .inl (P 56))), (a 57, .inl (cI, 60, .inl (P 57))), (a 58, .inl (cI, 60, .inl (P 58))), (a 59, .inl (cI, 12000, .inl (P 59)))]) (vp_Si (fun r => r = sg_otell P xl xw)) 0 0 (fun _ => False) := by
  refine Met.ofW (cc := cX2_tell) (maxL := 3) (ret := (some .int)) (by decide) rfl ?_
  intro p e s m args below meth c s₁ B hml hv
  obtain ⟨rfl, hsz, hP, hD0, hC⟩ := hv
  have hx := B.exec
  have hb := B.bytes
  have hr := B.returns
  have hts := atoms_spec (ws := wsX2_tell) B.pre
  have hown : s.vm.findClass RX2 = some m.cls := findClass_of_methodNamed B.named
  have hlocks := B.notSynchronized
  subst hsz
  have hK := hC.K
  have hD := hD0
  have hS : va_S (fun q => lo ≤ q) s.heap s.heap [] := va_S.rf
  have hAlo : ∀ q, (fun q => lo ≤ q) q → lo ≤ q := fun _ h => h
  have hL : ∀ q ∈ ([] : List Loc), (fun _ : Addr => False) q.base := fun q h => by cases h
  have hP : va_P D vwCl [(a 5, .inr (2, [.int (P 0 4), .ref (a 50), .ref (a 51), .ref (a 52), .ref (a 53), .ref (a 54), .ref (a 55), .ref (a 56), .ref (a 57), .ref (a 58), .ref (a 59)])), (a 50, .inl (cI, 60, .inl (P 50))), (a 51, .inl (cI, 60, .inl (P 51))), (a 52, .inl (cI, 60, .inl (P 52))), (a 53, .inl (cI, 60, .inl (P 53))), (a 54, .inl (cI, 60, .inl (P 54))), (a 55, .inl (cI, 60, .inl (P 55))), (a 56, .inl (cI, 60, .inl (P 56))), (a 57, .inl (cI, 60, .inl (P 57))), (a 58, .inl (cI, 60, .inl (P 58))), (a 59, .inl (cI, 12000, .inl (P 59)))] s.heap := hP
  have hl := lv_entry ([.ref (a 5), .int (nI xl), .int (nI xw)]) (n := 3) (Nat.le_of_ble_eq_true rfl)
  rw [lg_entry_eq]
  generalize (lg_sl ([.ref (a 5), .int (nI xl), .int (nI xw)]) ++ List.replicate (3 - (lg_sl ([.ref (a 5), .int (nI xl), .int (nI xw)])).length) Slot.unset).toArray = ls at hl ⊢
  have hl : lv_has ls 3 [(0, .ref (a 5)), (1, .int (nI xl)), (2, .int (nI xw))] := hl
  have in2 : ∀ w ∈ u_ws RX2 TX2 11, w ∈ wsX2_tell := by decide +kernel
  refine lv_iload_n hx hb dX2_tell_0 rfl (lv_at hl 2 rfl) ?_
  by_cases c_1 : xw = 0
  · refine lv_tableIn (x := nI xw) (tgt := 32) (off := 31) hx hb dX2_tell_1 (by rw [c_1]; decide) (by rw [c_1]; decide) (by rw [c_1]; decide +kernel) (by decide) ?_
    refine lv_aload_n hx hb dX2_tell_32 rfl (lv_at hl 0 rfl) ?_
    refine va_get (D := D) (ci := 2) (v := .ref (a 57)) (C := RX2) (T := TX2) (N := 11) hx hb hts in2 hown hK hP 0 rfl rfl 8 (by decide) (hts (.fieldLink RX2 33 "Granary$Orders" "state" "[I") (by decide +kernel)) (fun _ h9 => h9) rfl dX2_tell_33 ?_
    refine lv_iload_n hx hb dX2_tell_36 rfl (lv_at hl 1 rfl) ?_
    refine sg_iald hx hb hK hP 8 0 rfl rfl (j := xl) rfl (by omega) (Nat.le_of_ble_eq_true rfl) dX2_tell_37 ?_
    refine lv_toi (y := P 57 xl) rfl ?_
    exact W.iret (v := (P 57 xl)) hx hb hr (fun t ht hW => ⟨(P 57 xl), rfl, (show (P 57 xl : Int32) = sg_otell P xl xw from by rw [sg_otell, if_pos c_1]), ht⟩) hL dX2_tell_38
  · by_cases c_2 : xw = 1
    · refine lv_tableIn (x := nI xw) (tgt := 39) (off := 38) hx hb dX2_tell_1 (by rw [c_2]; decide) (by rw [c_2]; decide) (by rw [c_2]; decide +kernel) (by decide) ?_
      refine lv_aload_n hx hb dX2_tell_39 rfl (lv_at hl 0 rfl) ?_
      refine va_get (D := D) (ci := 2) (v := .ref (a 52)) (C := RX2) (T := TX2) (N := 11) hx hb hts in2 hown hK hP 0 rfl rfl 3 (by decide) (hts (.fieldLink RX2 18 "Granary$Orders" "units" "[I") (by decide +kernel)) (fun _ h9 => h9) rfl dX2_tell_40 ?_
      refine lv_iload_n hx hb dX2_tell_43 rfl (lv_at hl 1 rfl) ?_
      refine sg_iald hx hb hK hP 3 0 rfl rfl (j := xl) rfl (by omega) (Nat.le_of_ble_eq_true rfl) dX2_tell_44 ?_
      refine lv_toi (y := P 52 xl) rfl ?_
      exact W.iret (v := (P 52 xl)) hx hb hr (fun t ht hW => ⟨(P 52 xl), rfl, (show (P 52 xl : Int32) = sg_otell P xl xw from by rw [sg_otell, if_neg c_1, if_pos c_2]), ht⟩) hL dX2_tell_45
    · by_cases c_3 : xw = 2
      · refine lv_tableIn (x := nI xw) (tgt := 46) (off := 45) hx hb dX2_tell_1 (by rw [c_3]; decide) (by rw [c_3]; decide) (by rw [c_3]; decide +kernel) (by decide) ?_
        refine lv_aload_n hx hb dX2_tell_46 rfl (lv_at hl 0 rfl) ?_
        refine va_get (D := D) (ci := 2) (v := .ref (a 53)) (C := RX2) (T := TX2) (N := 11) hx hb hts in2 hown hK hP 0 rfl rfl 4 (by decide) (hts (.fieldLink RX2 21 "Granary$Orders" "reserved" "[I") (by decide +kernel)) (fun _ h9 => h9) rfl dX2_tell_47 ?_
        refine lv_iload_n hx hb dX2_tell_50 rfl (lv_at hl 1 rfl) ?_
        refine sg_iald hx hb hK hP 4 0 rfl rfl (j := xl) rfl (by omega) (Nat.le_of_ble_eq_true rfl) dX2_tell_51 ?_
        refine lv_toi (y := P 53 xl) rfl ?_
        exact W.iret (v := (P 53 xl)) hx hb hr (fun t ht hW => ⟨(P 53 xl), rfl, (show (P 53 xl : Int32) = sg_otell P xl xw from by rw [sg_otell, if_neg c_1, if_neg c_2, if_pos c_3]), ht⟩) hL dX2_tell_52
      · by_cases c_4 : xw = 3
        · refine lv_tableIn (x := nI xw) (tgt := 53) (off := 52) hx hb dX2_tell_1 (by rw [c_4]; decide) (by rw [c_4]; decide) (by rw [c_4]; decide +kernel) (by decide) ?_
          refine lv_aload_n hx hb dX2_tell_53 rfl (lv_at hl 0 rfl) ?_
          refine va_get (D := D) (ci := 2) (v := .ref (a 54)) (C := RX2) (T := TX2) (N := 11) hx hb hts in2 hown hK hP 0 rfl rfl 5 (by decide) (hts (.fieldLink RX2 24 "Granary$Orders" "due" "[I") (by decide +kernel)) (fun _ h9 => h9) rfl dX2_tell_54 ?_
          refine lv_iload_n hx hb dX2_tell_57 rfl (lv_at hl 1 rfl) ?_
          refine sg_iald hx hb hK hP 5 0 rfl rfl (j := xl) rfl (by omega) (Nat.le_of_ble_eq_true rfl) dX2_tell_58 ?_
          refine lv_toi (y := P 54 xl) rfl ?_
          exact W.iret (v := (P 54 xl)) hx hb hr (fun t ht hW => ⟨(P 54 xl), rfl, (show (P 54 xl : Int32) = sg_otell P xl xw from by rw [sg_otell, if_neg c_1, if_neg c_2, if_neg c_3, if_pos c_4]), ht⟩) hL dX2_tell_59
        · refine lv_tableOut (tgt := 60) hx hb dX2_tell_1 (Or.inr (by rw [nI_toInt (by omega)]; omega)) (by decide) ?_
          refine lv_aload_n hx hb dX2_tell_60 rfl (lv_at hl 0 rfl) ?_
          refine va_get (D := D) (ci := 2) (v := .ref (a 58)) (C := RX2) (T := TX2) (N := 11) hx hb hts in2 hown hK hP 0 rfl rfl 9 (by decide) (hts (.fieldLink RX2 36 "Granary$Orders" "shipDay" "[I") (by decide +kernel)) (fun _ h9 => h9) rfl dX2_tell_61 ?_
          refine lv_iload_n hx hb dX2_tell_64 rfl (lv_at hl 1 rfl) ?_
          refine sg_iald hx hb hK hP 9 0 rfl rfl (j := xl) rfl (by omega) (Nat.le_of_ble_eq_true rfl) dX2_tell_65 ?_
          refine lv_toi (y := P 58 xl) rfl ?_
          exact W.iret (v := (P 58 xl)) hx hb hr (fun t ht hW => ⟨(P 58 xl), rfl, (show (P 58 xl : Int32) = sg_otell P xl xw from by rw [sg_otell, if_neg c_1, if_neg c_2, if_neg c_3, if_neg c_4]), ht⟩) hL dX2_tell_66

def sg_ttell (P : sg_Pic) (xl : Nat) (xw : Nat) : Int32 := (if xw = 0 then (P 60 xl) else (if xw = 1 then (P 61 xl) else (if xw = 2 then (P 62 xl) else (if xw = 3 then (P 63 xl) else (if xw = 4 then (P 64 xl) else (P 65 xl))))))

set_option maxHeartbeats 4000000 in
set_option maxRecDepth 100000 in
/-- X7_tell -/
theorem c_ttell (l : Launch) (D : va_G) (cI cZ cJ : ClassId) (lo sz : Nat) (a : Nat → Nat) (P : sg_Pic) (xl : Nat) (xw : Nat) (hl0 : xl < 90) (hx0 : xw < 6) : Met l yX7_tell wsX7_tell ({ frames := 0, cells := 0, slots := 0, locals := 0 }) (Pre lo D cI cZ cJ [.ref (a 6), .int (nI xl), .int (nI xw)] sz [(a 6, .inr (7, [.int (P 0 5), .ref (a 60), .ref (a 61), .ref (a 62), .ref (a 63), .ref (a 64), .ref (a 65)])), (a 60, .inl (cI, 90, .inl (P 60))), (a 61, .inl (cI, 90, .inl (P 61))), (a 62, .inl (cI, 90, .inl (P 62))), (a 63, .inl (cI, 90, .inl (P 63))), (a 64, .inl (cI, 90, .inl (P 64))), (a 65, .inl (cI, 90, .inl (P 65)))]) (vp_Si (fun r => r = sg_ttell P xl xw)) 0 0 (fun _ => False) := by
  refine Met.ofW (cc := cX7_tell) (maxL := 3) (ret := (some .int)) (by decide) rfl ?_
  intro p e s m args below meth c s₁ B hml hv
  obtain ⟨rfl, hsz, hP, hD0, hC⟩ := hv
  have hx := B.exec
  have hb := B.bytes
  have hr := B.returns
  have hts := atoms_spec (ws := wsX7_tell) B.pre
  have hown : s.vm.findClass RX7 = some m.cls := findClass_of_methodNamed B.named
  have hlocks := B.notSynchronized
  subst hsz
  have hK := hC.K
  have hD := hD0
  have hS : va_S (fun q => lo ≤ q) s.heap s.heap [] := va_S.rf
  have hAlo : ∀ q, (fun q => lo ≤ q) q → lo ≤ q := fun _ h => h
  have hL : ∀ q ∈ ([] : List Loc), (fun _ : Addr => False) q.base := fun q h => by cases h
  have hP : va_P D vwCl [(a 6, .inr (7, [.int (P 0 5), .ref (a 60), .ref (a 61), .ref (a 62), .ref (a 63), .ref (a 64), .ref (a 65)])), (a 60, .inl (cI, 90, .inl (P 60))), (a 61, .inl (cI, 90, .inl (P 61))), (a 62, .inl (cI, 90, .inl (P 62))), (a 63, .inl (cI, 90, .inl (P 63))), (a 64, .inl (cI, 90, .inl (P 64))), (a 65, .inl (cI, 90, .inl (P 65)))] s.heap := hP
  have hl := lv_entry ([.ref (a 6), .int (nI xl), .int (nI xw)]) (n := 3) (Nat.le_of_ble_eq_true rfl)
  rw [lg_entry_eq]
  generalize (lg_sl ([.ref (a 6), .int (nI xl), .int (nI xw)]) ++ List.replicate (3 - (lg_sl ([.ref (a 6), .int (nI xl), .int (nI xw)])).length) Slot.unset).toArray = ls at hl ⊢
  have hl : lv_has ls 3 [(0, .ref (a 6)), (1, .int (nI xl)), (2, .int (nI xw))] := hl
  have in7 : ∀ w ∈ u_ws RX7 TX7 7, w ∈ wsX7_tell := by decide +kernel
  refine lv_iload_n hx hb dX7_tell_0 rfl (lv_at hl 2 rfl) ?_
  by_cases c_1 : xw = 0
  · refine lv_tableIn (x := nI xw) (tgt := 36) (off := 35) hx hb dX7_tell_1 (by rw [c_1]; decide) (by rw [c_1]; decide) (by rw [c_1]; decide +kernel) (by decide) ?_
    refine lv_aload_n hx hb dX7_tell_36 rfl (lv_at hl 0 rfl) ?_
    refine va_get (D := D) (ci := 7) (v := .ref (a 60)) (C := RX7) (T := TX7) (N := 7) hx hb hts in7 hown hK hP 0 rfl rfl 1 (by decide) (hts (.fieldLink RX7 9 "Granary$Transports" "item" "[I") (by decide +kernel)) (fun _ h9 => h9) rfl dX7_tell_37 ?_
    refine lv_iload_n hx hb dX7_tell_40 rfl (lv_at hl 1 rfl) ?_
    refine sg_iald hx hb hK hP 1 0 rfl rfl (j := xl) rfl (by omega) (Nat.le_of_ble_eq_true rfl) dX7_tell_41 ?_
    refine lv_toi (y := P 60 xl) rfl ?_
    exact W.iret (v := (P 60 xl)) hx hb hr (fun t ht hW => ⟨(P 60 xl), rfl, (show (P 60 xl : Int32) = sg_ttell P xl xw from by rw [sg_ttell, if_pos c_1]), ht⟩) hL dX7_tell_42
  · by_cases c_2 : xw = 1
    · refine lv_tableIn (x := nI xw) (tgt := 43) (off := 42) hx hb dX7_tell_1 (by rw [c_2]; decide) (by rw [c_2]; decide) (by rw [c_2]; decide +kernel) (by decide) ?_
      refine lv_aload_n hx hb dX7_tell_43 rfl (lv_at hl 0 rfl) ?_
      refine va_get (D := D) (ci := 7) (v := .ref (a 61)) (C := RX7) (T := TX7) (N := 7) hx hb hts in7 hown hK hP 0 rfl rfl 2 (by decide) (hts (.fieldLink RX7 15 "Granary$Transports" "site" "[I") (by decide +kernel)) (fun _ h9 => h9) rfl dX7_tell_44 ?_
      refine lv_iload_n hx hb dX7_tell_47 rfl (lv_at hl 1 rfl) ?_
      refine sg_iald hx hb hK hP 2 0 rfl rfl (j := xl) rfl (by omega) (Nat.le_of_ble_eq_true rfl) dX7_tell_48 ?_
      refine lv_toi (y := P 61 xl) rfl ?_
      exact W.iret (v := (P 61 xl)) hx hb hr (fun t ht hW => ⟨(P 61 xl), rfl, (show (P 61 xl : Int32) = sg_ttell P xl xw from by rw [sg_ttell, if_neg c_1, if_pos c_2]), ht⟩) hL dX7_tell_49
    · by_cases c_3 : xw = 2
      · refine lv_tableIn (x := nI xw) (tgt := 50) (off := 49) hx hb dX7_tell_1 (by rw [c_3]; decide) (by rw [c_3]; decide) (by rw [c_3]; decide +kernel) (by decide) ?_
        refine lv_aload_n hx hb dX7_tell_50 rfl (lv_at hl 0 rfl) ?_
        refine va_get (D := D) (ci := 7) (v := .ref (a 62)) (C := RX7) (T := TX7) (N := 7) hx hb hts in7 hown hK hP 0 rfl rfl 3 (by decide) (hts (.fieldLink RX7 18 "Granary$Transports" "units" "[I") (by decide +kernel)) (fun _ h9 => h9) rfl dX7_tell_51 ?_
        refine lv_iload_n hx hb dX7_tell_54 rfl (lv_at hl 1 rfl) ?_
        refine sg_iald hx hb hK hP 3 0 rfl rfl (j := xl) rfl (by omega) (Nat.le_of_ble_eq_true rfl) dX7_tell_55 ?_
        refine lv_toi (y := P 62 xl) rfl ?_
        exact W.iret (v := (P 62 xl)) hx hb hr (fun t ht hW => ⟨(P 62 xl), rfl, (show (P 62 xl : Int32) = sg_ttell P xl xw from by rw [sg_ttell, if_neg c_1, if_neg c_2, if_pos c_3]), ht⟩) hL dX7_tell_56
      · by_cases c_4 : xw = 3
        · refine lv_tableIn (x := nI xw) (tgt := 57) (off := 56) hx hb dX7_tell_1 (by rw [c_4]; decide) (by rw [c_4]; decide) (by rw [c_4]; decide +kernel) (by decide) ?_
          refine lv_aload_n hx hb dX7_tell_57 rfl (lv_at hl 0 rfl) ?_
          refine va_get (D := D) (ci := 7) (v := .ref (a 63)) (C := RX7) (T := TX7) (N := 7) hx hb hts in7 hown hK hP 0 rfl rfl 4 (by decide) (hts (.fieldLink RX7 21 "Granary$Transports" "arrival" "[I") (by decide +kernel)) (fun _ h9 => h9) rfl dX7_tell_58 ?_
          refine lv_iload_n hx hb dX7_tell_61 rfl (lv_at hl 1 rfl) ?_
          refine sg_iald hx hb hK hP 4 0 rfl rfl (j := xl) rfl (by omega) (Nat.le_of_ble_eq_true rfl) dX7_tell_62 ?_
          refine lv_toi (y := P 63 xl) rfl ?_
          exact W.iret (v := (P 63 xl)) hx hb hr (fun t ht hW => ⟨(P 63 xl), rfl, (show (P 63 xl : Int32) = sg_ttell P xl xw from by rw [sg_ttell, if_neg c_1, if_neg c_2, if_neg c_3, if_pos c_4]), ht⟩) hL dX7_tell_63
        · by_cases c_5 : xw = 4
          · refine lv_tableIn (x := nI xw) (tgt := 64) (off := 63) hx hb dX7_tell_1 (by rw [c_5]; decide) (by rw [c_5]; decide) (by rw [c_5]; decide +kernel) (by decide) ?_
            refine lv_aload_n hx hb dX7_tell_64 rfl (lv_at hl 0 rfl) ?_
            refine va_get (D := D) (ci := 7) (v := .ref (a 64)) (C := RX7) (T := TX7) (N := 7) hx hb hts in7 hown hK hP 0 rfl rfl 5 (by decide) (hts (.fieldLink RX7 24 "Granary$Transports" "last" "[I") (by decide +kernel)) (fun _ h9 => h9) rfl dX7_tell_65 ?_
            refine lv_iload_n hx hb dX7_tell_68 rfl (lv_at hl 1 rfl) ?_
            refine sg_iald hx hb hK hP 5 0 rfl rfl (j := xl) rfl (by omega) (Nat.le_of_ble_eq_true rfl) dX7_tell_69 ?_
            refine lv_toi (y := P 64 xl) rfl ?_
            exact W.iret (v := (P 64 xl)) hx hb hr (fun t ht hW => ⟨(P 64 xl), rfl, (show (P 64 xl : Int32) = sg_ttell P xl xw from by rw [sg_ttell, if_neg c_1, if_neg c_2, if_neg c_3, if_neg c_4, if_pos c_5]), ht⟩) hL dX7_tell_70
          · refine lv_tableOut (tgt := 71) hx hb dX7_tell_1 (Or.inr (by rw [nI_toInt (by omega)]; omega)) (by decide) ?_
            refine lv_aload_n hx hb dX7_tell_71 rfl (lv_at hl 0 rfl) ?_
            refine va_get (D := D) (ci := 7) (v := .ref (a 65)) (C := RX7) (T := TX7) (N := 7) hx hb hts in7 hown hK hP 0 rfl rfl 6 (by decide) (hts (.fieldLink RX7 27 "Granary$Transports" "moving" "[I") (by decide +kernel)) (fun _ h9 => h9) rfl dX7_tell_72 ?_
            refine lv_iload_n hx hb dX7_tell_75 rfl (lv_at hl 1 rfl) ?_
            refine sg_iald hx hb hK hP 6 0 rfl rfl (j := xl) rfl (by omega) (Nat.le_of_ble_eq_true rfl) dX7_tell_76 ?_
            refine lv_toi (y := P 65 xl) rfl ?_
            exact W.iret (v := (P 65 xl)) hx hb hr (fun t ht hW => ⟨(P 65 xl), rfl, (show (P 65 xl : Int32) = sg_ttell P xl xw from by rw [sg_ttell, if_neg c_1, if_neg c_2, if_neg c_3, if_neg c_4, if_neg c_5]), ht⟩) hL dX7_tell_77

def sg_roomAt (P : sg_Pic) (x : Int32) : Int32 := (if (sg_X5_has P x) = 0 then 0 else ((P 20 (Int32.toNatClampNeg x)) - (sg_allUnitsAt P (nI (Int32.toNatClampNeg x)))))

set_option maxHeartbeats 4000000 in
set_option maxRecDepth 100000 in
/-- X6_roomAt -/
theorem c_roomAt (l : Launch) (D : va_G) (cI cZ cJ : ClassId) (lo sz : Nat) (a : Nat → Nat) (P : sg_Pic) (x : Int32) (hw : sg_W P) : Met l yX6_roomAt wsX6_roomAt ({ frames := 1, cells := 0, slots := 0, locals := 23 }) (Pre lo D cI cZ cJ [.ref (a 0), .int x] sz [(a 0, .inr (6, [.int (P 0 0), .ref (a 1), .ref (a 2), .ref (a 3), .ref (a 4), .ref (a 5), .ref (a 6), .ref (a 70), .ref (a 71)])), (a 2, .inr (5, [.int (P 0 2), .ref (a 20), .ref (a 21)])), (a 4, .inr (1, [.int (P 0 3), .ref (a 40), .ref (a 41), .ref (a 42), .ref (a 43), .ref (a 44)])), (a 20, .inl (cI, 5, .inl (P 20))), (a 21, .inl (cI, 25, .inl (P 21))), (a 40, .inl (cI, 200, .inl (P 40))), (a 41, .inl (cI, 200, .inl (P 41))), (a 42, .inl (cI, 200, .inl (P 42))), (a 43, .inl (cI, 200, .inl (P 43))), (a 44, .inl (cI, 200, .inl (P 44)))]) (vp_Si (fun r => r = sg_roomAt P x)) 0 0 (fun _ => False) := by
  refine Met.ofW (cc := cX6_roomAt) (maxL := 2) (ret := (some .int)) (by decide) rfl ?_
  intro p e s m args below meth c s₁ B hml hv
  obtain ⟨rfl, hsz, hP, hD0, hC⟩ := hv
  have hx := B.exec
  have hb := B.bytes
  have hr := B.returns
  have hts := atoms_spec (ws := wsX6_roomAt) B.pre
  have hown : s.vm.findClass RX6 = some m.cls := findClass_of_methodNamed B.named
  have hlocks := B.notSynchronized
  subst hsz
  have hn1 : sg_cn P 1 ≤ 6 := hw.n1
  have hn2 : sg_cn P 2 ≤ 5 := hw.n2
  have hn3 : sg_cn P 3 ≤ 200 := hw.n3
  have hn4 : sg_cn P 4 ≤ 60 := hw.n4
  have hn5 : sg_cn P 5 ≤ 90 := hw.n5
  have hK := hC.K
  have hD := hD0
  have hS : va_S (fun q => lo ≤ q) s.heap s.heap [] := va_S.rf
  have hAlo : ∀ q, (fun q => lo ≤ q) q → lo ≤ q := fun _ h => h
  have hL : ∀ q ∈ ([] : List Loc), (fun _ : Addr => False) q.base := fun q h => by cases h
  have hP : va_P D vwCl [(a 0, .inr (6, [.int (P 0 0), .ref (a 1), .ref (a 2), .ref (a 3), .ref (a 4), .ref (a 5), .ref (a 6), .ref (a 70), .ref (a 71)])), (a 2, .inr (5, [.int (P 0 2), .ref (a 20), .ref (a 21)])), (a 4, .inr (1, [.int (P 0 3), .ref (a 40), .ref (a 41), .ref (a 42), .ref (a 43), .ref (a 44)])), (a 20, .inl (cI, 5, .inl (P 20))), (a 21, .inl (cI, 25, .inl (P 21))), (a 40, .inl (cI, 200, .inl (P 40))), (a 41, .inl (cI, 200, .inl (P 41))), (a 42, .inl (cI, 200, .inl (P 42))), (a 43, .inl (cI, 200, .inl (P 43))), (a 44, .inl (cI, 200, .inl (P 44)))] s.heap := hP
  have hl := lv_entry ([.ref (a 0), .int x]) (n := 2) (Nat.le_of_ble_eq_true rfl)
  rw [lg_entry_eq]
  generalize (lg_sl ([.ref (a 0), .int x]) ++ List.replicate (2 - (lg_sl ([.ref (a 0), .int x])).length) Slot.unset).toArray = ls at hl ⊢
  have hl : lv_has ls 2 [(0, .ref (a 0)), (1, .int x)] := hl
  have in5 : ∀ w ∈ u_ws RX5 TX5 3, w ∈ wsX6_roomAt := by decide +kernel
  have in6 : ∀ w ∈ u_ws RX6 TX6 9, w ∈ wsX6_roomAt := by decide +kernel
  refine lv_aload_n hx hb dX6_roomAt_0 rfl (lv_at hl 0 rfl) ?_
  refine va_get (D := D) (ci := 6) (v := .ref (a 2)) (C := RX6) (T := TX6) (N := 9) hx hb hts in6 hown hK hP 0 rfl rfl 2 (by decide) (hts (.fieldLink RX6 21 "Granary$Stock" "sites" "LGranary$Sites;") (by decide +kernel)) (fun _ h9 => h9) rfl dX6_roomAt_1 ?_
  refine lv_iload_n hx hb dX6_roomAt_4 rfl (lv_at hl 1 rfl) ?_
  have hPc := hP.sub (ws' := [(a 2, .inr (5, [.int (P 0 2), .ref (a 20), .ref (a 21)]))]) [1] rfl
  have hDc := hD.sub (ws' := [(a 2, .inr (5, [.int (P 0 2), .ref (a 20), .ref (a 21)]))]) [1] (by decide) rfl
  refine vp_callSi (W.runV (As := [.int x]) (rest := []) ⟨hx, hb, hml, hown, hts⟩ (c_X5_has l D cI cZ cJ lo s.heap.size a P x) (cwV 1 hts gX6_roomAt_X5_has rfl rfl rfl (by decide +kernel) ⟨(Nat.le_of_ble_eq_true rfl), (Nat.le_of_ble_eq_true rfl)⟩) ⟨Pre.blind, va_recv hK hP (ci := 5) (q0 := 1) rfl rfl, Pre.mk hPc (hDc.weaken (fun _ _ _ h => hAlo _ h)) hC hS hAlo⟩ rfl rfl hl.1 rfl (lv_room (Nat.le_of_ble_eq_true rfl)) dX6_roomAt_5 ⟨(Nat.le_of_ble_eq_true rfl), (Nat.le_of_ble_eq_true rfl)⟩) (fun r_1 e_2 => ?_)
  clear hPc hDc
  have e_2 : sg_X5_has P x = r_1 := Eq.symm e_2
  subst e_2
  refine lv_if_eq (tgt := 32) hx hb dX6_roomAt_8 (by decide) (fun c_3 => ?_) (fun c_3 => ?_)
  · refine lv_iconst (v := 0) hx hb dX6_roomAt_32 (by decide) ?_
    exact W.iret (v := 0) hx hb hr (fun t ht hW => ⟨0, rfl, (show (0 : Int32) = sg_roomAt P x from by rw [sg_roomAt, if_pos c_3]), ht⟩) hL dX6_roomAt_33
  · obtain ⟨e_4, le_4⟩ := sg_hasS hw c_3
    have e_4 : (x : Int32) = nI (Int32.toNatClampNeg x) := e_4
    have le_4 : Int32.toNatClampNeg x < sg_cn P 2 := le_4
    replace hl : lv_has ls 2 [(0, .ref (a 0)), (1, .int (nI (Int32.toNatClampNeg x)))] := by rw [← e_4]; exact hl
    refine lv_aload_n hx hb dX6_roomAt_11 rfl (lv_at hl 0 rfl) ?_
    refine va_get (D := D) (ci := 6) (v := .ref (a 2)) (C := RX6) (T := TX6) (N := 9) hx hb hts in6 hown hK hP 0 rfl rfl 2 (by decide) (hts (.fieldLink RX6 21 "Granary$Stock" "sites" "LGranary$Sites;") (by decide +kernel)) (fun _ h9 => h9) rfl dX6_roomAt_12 ?_
    refine va_get (D := D) (ci := 5) (v := .ref (a 20)) (C := RX5) (T := TX5) (N := 3) hx hb hts in5 hown hK hP 1 rfl rfl 1 (by decide) (hts (.fieldLink RX6 93 "Granary$Sites" "room" "[I") (by decide +kernel)) (fun _ h9 => h9) rfl dX6_roomAt_15 ?_
    refine lv_iload_n hx hb dX6_roomAt_18 rfl (lv_at hl 1 rfl) ?_
    refine sg_iald hx hb hK hP 3 0 rfl rfl (j := Int32.toNatClampNeg x) rfl (by omega) (Nat.le_of_ble_eq_true rfl) dX6_roomAt_19 ?_
    refine lv_toi (y := P 20 (Int32.toNatClampNeg x)) rfl ?_
    refine lv_aload_n hx hb dX6_roomAt_20 rfl (lv_at hl 0 rfl) ?_
    refine va_get (D := D) (ci := 6) (v := .ref (a 4)) (C := RX6) (T := TX6) (N := 9) hx hb hts in6 hown hK hP 0 rfl rfl 4 (by decide) (hts (.fieldLink RX6 35 "Granary$Stock" "lots" "LGranary$Lots;") (by decide +kernel)) (fun _ h9 => h9) rfl dX6_roomAt_21 ?_
    refine lv_iload_n hx hb dX6_roomAt_24 rfl (lv_at hl 1 rfl) ?_
    have hPc := hP.sub (ws' := [(a 4, .inr (1, [.int (P 0 3), .ref (a 40), .ref (a 41), .ref (a 42), .ref (a 43), .ref (a 44)])), (a 40, .inl (cI, 200, .inl (P 40))), (a 41, .inl (cI, 200, .inl (P 41))), (a 42, .inl (cI, 200, .inl (P 42))), (a 43, .inl (cI, 200, .inl (P 43))), (a 44, .inl (cI, 200, .inl (P 44)))]) [2, 5, 6, 7, 8, 9] rfl
    have hDc := hD.sub (ws' := [(a 4, .inr (1, [.int (P 0 3), .ref (a 40), .ref (a 41), .ref (a 42), .ref (a 43), .ref (a 44)])), (a 40, .inl (cI, 200, .inl (P 40))), (a 41, .inl (cI, 200, .inl (P 41))), (a 42, .inl (cI, 200, .inl (P 42))), (a 43, .inl (cI, 200, .inl (P 43))), (a 44, .inl (cI, 200, .inl (P 44)))]) [2, 5, 6, 7, 8, 9] (by decide) rfl
    refine vp_callSi (W.runV (As := [.int (nI (Int32.toNatClampNeg x))]) (rest := [.int (P 20 (Int32.toNatClampNeg x))]) ⟨hx, hb, hml, hown, hts⟩ (c_allUnitsAt l D cI cZ cJ lo s.heap.size a P (nI (Int32.toNatClampNeg x)) hw) (cwV 1 hts gX6_roomAt_X1_allUnitsAt rfl rfl rfl (by decide +kernel) ⟨(Nat.le_of_ble_eq_true rfl), (Nat.le_of_ble_eq_true rfl)⟩) ⟨Pre.blind, va_recv hK hP (ci := 1) (q0 := 2) rfl rfl, Pre.mk hPc (hDc.weaken (fun _ _ _ h => hAlo _ h)) hC hS hAlo⟩ rfl rfl hl.1 rfl (lv_room (Nat.le_of_ble_eq_true rfl)) dX6_roomAt_25 ⟨(Nat.le_of_ble_eq_true rfl), (Nat.le_of_ble_eq_true rfl)⟩) (fun r_5 e_6 => ?_)
    clear hPc hDc
    have e_6 : sg_allUnitsAt P (nI (Int32.toNatClampNeg x)) = r_5 := Eq.symm e_6
    subst e_6
    refine lv_isub hx hb dX6_roomAt_28 ?_
    refine lv_goto (tgt := 33) hx hb dX6_roomAt_29 (by decide) ?_
    exact W.iret (v := ((P 20 (Int32.toNatClampNeg x)) - (sg_allUnitsAt P (nI (Int32.toNatClampNeg x))))) hx hb hr (fun t ht hW => ⟨((P 20 (Int32.toNatClampNeg x)) - (sg_allUnitsAt P (nI (Int32.toNatClampNeg x)))), rfl, (show ((P 20 (Int32.toNatClampNeg x)) - (sg_allUnitsAt P (nI (Int32.toNatClampNeg x))) : Int32) = sg_roomAt P x from by rw [sg_roomAt, if_neg c_3]), ht⟩) hL dX6_roomAt_33

def sg_positionAt (P : sg_Pic) (x : Int32) (y : Int32) : Int32 := (((sg_unitsAt P x y) + (sg_unitsTo P x y)) - (sg_openUnitsFrom P x y))

set_option maxHeartbeats 4000000 in
set_option maxRecDepth 100000 in
/-- X6_positionAt -/
theorem c_positionAt (l : Launch) (D : va_G) (cI cZ cJ : ClassId) (lo sz : Nat) (a : Nat → Nat) (P : sg_Pic) (x : Int32) (y : Int32) (hw : sg_W P) : Met l yX6_positionAt wsX6_positionAt ({ frames := 2, cells := 0, slots := 0, locals := 47 }) (Pre lo D cI cZ cJ [.ref (a 0), .int x, .int y] sz [(a 0, .inr (6, [.int (P 0 0), .ref (a 1), .ref (a 2), .ref (a 3), .ref (a 4), .ref (a 5), .ref (a 6), .ref (a 70), .ref (a 71)])), (a 4, .inr (1, [.int (P 0 3), .ref (a 40), .ref (a 41), .ref (a 42), .ref (a 43), .ref (a 44)])), (a 5, .inr (2, [.int (P 0 4), .ref (a 50), .ref (a 51), .ref (a 52), .ref (a 53), .ref (a 54), .ref (a 55), .ref (a 56), .ref (a 57), .ref (a 58), .ref (a 59)])), (a 6, .inr (7, [.int (P 0 5), .ref (a 60), .ref (a 61), .ref (a 62), .ref (a 63), .ref (a 64), .ref (a 65)])), (a 40, .inl (cI, 200, .inl (P 40))), (a 41, .inl (cI, 200, .inl (P 41))), (a 42, .inl (cI, 200, .inl (P 42))), (a 43, .inl (cI, 200, .inl (P 43))), (a 44, .inl (cI, 200, .inl (P 44))), (a 50, .inl (cI, 60, .inl (P 50))), (a 51, .inl (cI, 60, .inl (P 51))), (a 52, .inl (cI, 60, .inl (P 52))), (a 53, .inl (cI, 60, .inl (P 53))), (a 54, .inl (cI, 60, .inl (P 54))), (a 55, .inl (cI, 60, .inl (P 55))), (a 56, .inl (cI, 60, .inl (P 56))), (a 57, .inl (cI, 60, .inl (P 57))), (a 58, .inl (cI, 60, .inl (P 58))), (a 59, .inl (cI, 12000, .inl (P 59))), (a 60, .inl (cI, 90, .inl (P 60))), (a 61, .inl (cI, 90, .inl (P 61))), (a 62, .inl (cI, 90, .inl (P 62))), (a 63, .inl (cI, 90, .inl (P 63))), (a 64, .inl (cI, 90, .inl (P 64))), (a 65, .inl (cI, 90, .inl (P 65)))]) (vp_Si (fun r => r = sg_positionAt P x y)) 0 0 (fun _ => False) := by
  refine Met.ofW (cc := cX6_positionAt) (maxL := 3) (ret := (some .int)) (by decide) rfl ?_
  intro p e s m args below meth c s₁ B hml hv
  obtain ⟨rfl, hsz, hP, hD0, hC⟩ := hv
  have hx := B.exec
  have hb := B.bytes
  have hr := B.returns
  have hts := atoms_spec (ws := wsX6_positionAt) B.pre
  have hown : s.vm.findClass RX6 = some m.cls := findClass_of_methodNamed B.named
  have hlocks := B.notSynchronized
  subst hsz
  have hn1 : sg_cn P 1 ≤ 6 := hw.n1
  have hn2 : sg_cn P 2 ≤ 5 := hw.n2
  have hn3 : sg_cn P 3 ≤ 200 := hw.n3
  have hn4 : sg_cn P 4 ≤ 60 := hw.n4
  have hn5 : sg_cn P 5 ≤ 90 := hw.n5
  have hK := hC.K
  have hD := hD0
  have hS : va_S (fun q => lo ≤ q) s.heap s.heap [] := va_S.rf
  have hAlo : ∀ q, (fun q => lo ≤ q) q → lo ≤ q := fun _ h => h
  have hL : ∀ q ∈ ([] : List Loc), (fun _ : Addr => False) q.base := fun q h => by cases h
  have hP : va_P D vwCl [(a 0, .inr (6, [.int (P 0 0), .ref (a 1), .ref (a 2), .ref (a 3), .ref (a 4), .ref (a 5), .ref (a 6), .ref (a 70), .ref (a 71)])), (a 4, .inr (1, [.int (P 0 3), .ref (a 40), .ref (a 41), .ref (a 42), .ref (a 43), .ref (a 44)])), (a 5, .inr (2, [.int (P 0 4), .ref (a 50), .ref (a 51), .ref (a 52), .ref (a 53), .ref (a 54), .ref (a 55), .ref (a 56), .ref (a 57), .ref (a 58), .ref (a 59)])), (a 6, .inr (7, [.int (P 0 5), .ref (a 60), .ref (a 61), .ref (a 62), .ref (a 63), .ref (a 64), .ref (a 65)])), (a 40, .inl (cI, 200, .inl (P 40))), (a 41, .inl (cI, 200, .inl (P 41))), (a 42, .inl (cI, 200, .inl (P 42))), (a 43, .inl (cI, 200, .inl (P 43))), (a 44, .inl (cI, 200, .inl (P 44))), (a 50, .inl (cI, 60, .inl (P 50))), (a 51, .inl (cI, 60, .inl (P 51))), (a 52, .inl (cI, 60, .inl (P 52))), (a 53, .inl (cI, 60, .inl (P 53))), (a 54, .inl (cI, 60, .inl (P 54))), (a 55, .inl (cI, 60, .inl (P 55))), (a 56, .inl (cI, 60, .inl (P 56))), (a 57, .inl (cI, 60, .inl (P 57))), (a 58, .inl (cI, 60, .inl (P 58))), (a 59, .inl (cI, 12000, .inl (P 59))), (a 60, .inl (cI, 90, .inl (P 60))), (a 61, .inl (cI, 90, .inl (P 61))), (a 62, .inl (cI, 90, .inl (P 62))), (a 63, .inl (cI, 90, .inl (P 63))), (a 64, .inl (cI, 90, .inl (P 64))), (a 65, .inl (cI, 90, .inl (P 65)))] s.heap := hP
  have hl := lv_entry ([.ref (a 0), .int x, .int y]) (n := 3) (Nat.le_of_ble_eq_true rfl)
  rw [lg_entry_eq]
  generalize (lg_sl ([.ref (a 0), .int x, .int y]) ++ List.replicate (3 - (lg_sl ([.ref (a 0), .int x, .int y])).length) Slot.unset).toArray = ls at hl ⊢
  have hl : lv_has ls 3 [(0, .ref (a 0)), (1, .int x), (2, .int y)] := hl
  have in6 : ∀ w ∈ u_ws RX6 TX6 9, w ∈ wsX6_positionAt := by decide +kernel
  refine lv_aload_n hx hb dX6_positionAt_0 rfl (lv_at hl 0 rfl) ?_
  refine va_get (D := D) (ci := 6) (v := .ref (a 4)) (C := RX6) (T := TX6) (N := 9) hx hb hts in6 hown hK hP 0 rfl rfl 4 (by decide) (hts (.fieldLink RX6 35 "Granary$Stock" "lots" "LGranary$Lots;") (by decide +kernel)) (fun _ h9 => h9) rfl dX6_positionAt_1 ?_
  refine lv_iload_n hx hb dX6_positionAt_4 rfl (lv_at hl 1 rfl) ?_
  refine lv_iload_n hx hb dX6_positionAt_5 rfl (lv_at hl 2 rfl) ?_
  have hPc := hP.sub (ws' := [(a 4, .inr (1, [.int (P 0 3), .ref (a 40), .ref (a 41), .ref (a 42), .ref (a 43), .ref (a 44)])), (a 40, .inl (cI, 200, .inl (P 40))), (a 41, .inl (cI, 200, .inl (P 41))), (a 42, .inl (cI, 200, .inl (P 42))), (a 43, .inl (cI, 200, .inl (P 43))), (a 44, .inl (cI, 200, .inl (P 44)))]) [1, 4, 5, 6, 7, 8] rfl
  have hDc := hD.sub (ws' := [(a 4, .inr (1, [.int (P 0 3), .ref (a 40), .ref (a 41), .ref (a 42), .ref (a 43), .ref (a 44)])), (a 40, .inl (cI, 200, .inl (P 40))), (a 41, .inl (cI, 200, .inl (P 41))), (a 42, .inl (cI, 200, .inl (P 42))), (a 43, .inl (cI, 200, .inl (P 43))), (a 44, .inl (cI, 200, .inl (P 44)))]) [1, 4, 5, 6, 7, 8] (by decide) rfl
  refine vp_callSi (W.runV (As := [.int x, .int y]) (rest := []) ⟨hx, hb, hml, hown, hts⟩ (c_unitsAt l D cI cZ cJ lo s.heap.size a P x y hw) (cwV 2 hts gX6_positionAt_X1_unitsAt rfl rfl rfl (by decide +kernel) ⟨(Nat.le_of_ble_eq_true rfl), (Nat.le_of_ble_eq_true rfl)⟩) ⟨Pre.blind, va_recv hK hP (ci := 1) (q0 := 1) rfl rfl, Pre.mk hPc (hDc.weaken (fun _ _ _ h => hAlo _ h)) hC hS hAlo⟩ rfl rfl hl.1 rfl (lv_room (Nat.le_of_ble_eq_true rfl)) dX6_positionAt_6 ⟨(Nat.le_of_ble_eq_true rfl), (Nat.le_of_ble_eq_true rfl)⟩) (fun r_1 e_2 => ?_)
  clear hPc hDc
  have e_2 : sg_unitsAt P x y = r_1 := Eq.symm e_2
  subst e_2
  refine lv_aload_n hx hb dX6_positionAt_9 rfl (lv_at hl 0 rfl) ?_
  refine va_get (D := D) (ci := 6) (v := .ref (a 6)) (C := RX6) (T := TX6) (N := 9) hx hb hts in6 hown hK hP 0 rfl rfl 6 (by decide) (hts (.fieldLink RX6 49 "Granary$Stock" "transports" "LGranary$Transports;") (by decide +kernel)) (fun _ h9 => h9) rfl dX6_positionAt_10 ?_
  refine lv_iload_n hx hb dX6_positionAt_13 rfl (lv_at hl 1 rfl) ?_
  refine lv_iload_n hx hb dX6_positionAt_14 rfl (lv_at hl 2 rfl) ?_
  have hPc := hP.sub (ws' := [(a 6, .inr (7, [.int (P 0 5), .ref (a 60), .ref (a 61), .ref (a 62), .ref (a 63), .ref (a 64), .ref (a 65)])), (a 60, .inl (cI, 90, .inl (P 60))), (a 61, .inl (cI, 90, .inl (P 61))), (a 62, .inl (cI, 90, .inl (P 62))), (a 63, .inl (cI, 90, .inl (P 63))), (a 64, .inl (cI, 90, .inl (P 64))), (a 65, .inl (cI, 90, .inl (P 65)))]) [3, 19, 20, 21, 22, 23, 24] rfl
  have hDc := hD.sub (ws' := [(a 6, .inr (7, [.int (P 0 5), .ref (a 60), .ref (a 61), .ref (a 62), .ref (a 63), .ref (a 64), .ref (a 65)])), (a 60, .inl (cI, 90, .inl (P 60))), (a 61, .inl (cI, 90, .inl (P 61))), (a 62, .inl (cI, 90, .inl (P 62))), (a 63, .inl (cI, 90, .inl (P 63))), (a 64, .inl (cI, 90, .inl (P 64))), (a 65, .inl (cI, 90, .inl (P 65)))]) [3, 19, 20, 21, 22, 23, 24] (by decide) rfl
  refine vp_callSi (W.runV (As := [.int x, .int y]) (rest := [.int (sg_unitsAt P x y)]) ⟨hx, hb, hml, hown, hts⟩ (c_unitsTo l D cI cZ cJ lo s.heap.size a P x y hw) (cwV 2 hts gX6_positionAt_X7_unitsTo rfl rfl rfl (by decide +kernel) ⟨(Nat.le_of_ble_eq_true rfl), (Nat.le_of_ble_eq_true rfl)⟩) ⟨Pre.blind, va_recv hK hP (ci := 7) (q0 := 3) rfl rfl, Pre.mk hPc (hDc.weaken (fun _ _ _ h => hAlo _ h)) hC hS hAlo⟩ rfl rfl hl.1 rfl (lv_room (Nat.le_of_ble_eq_true rfl)) dX6_positionAt_15 ⟨(Nat.le_of_ble_eq_true rfl), (Nat.le_of_ble_eq_true rfl)⟩) (fun r_3 e_4 => ?_)
  clear hPc hDc
  have e_4 : sg_unitsTo P x y = r_3 := Eq.symm e_4
  subst e_4
  refine lv_iadd hx hb dX6_positionAt_18 ?_
  refine lv_aload_n hx hb dX6_positionAt_19 rfl (lv_at hl 0 rfl) ?_
  refine va_get (D := D) (ci := 6) (v := .ref (a 5)) (C := RX6) (T := TX6) (N := 9) hx hb hts in6 hown hK hP 0 rfl rfl 5 (by decide) (hts (.fieldLink RX6 42 "Granary$Stock" "orders" "LGranary$Orders;") (by decide +kernel)) (fun _ h9 => h9) rfl dX6_positionAt_20 ?_
  refine lv_iload_n hx hb dX6_positionAt_23 rfl (lv_at hl 1 rfl) ?_
  refine lv_iload_n hx hb dX6_positionAt_24 rfl (lv_at hl 2 rfl) ?_
  have hPc := hP.sub (ws' := [(a 5, .inr (2, [.int (P 0 4), .ref (a 50), .ref (a 51), .ref (a 52), .ref (a 53), .ref (a 54), .ref (a 55), .ref (a 56), .ref (a 57), .ref (a 58), .ref (a 59)])), (a 50, .inl (cI, 60, .inl (P 50))), (a 51, .inl (cI, 60, .inl (P 51))), (a 52, .inl (cI, 60, .inl (P 52))), (a 53, .inl (cI, 60, .inl (P 53))), (a 54, .inl (cI, 60, .inl (P 54))), (a 55, .inl (cI, 60, .inl (P 55))), (a 56, .inl (cI, 60, .inl (P 56))), (a 57, .inl (cI, 60, .inl (P 57))), (a 58, .inl (cI, 60, .inl (P 58))), (a 59, .inl (cI, 12000, .inl (P 59)))]) [2, 9, 10, 11, 12, 13, 14, 15, 16, 17, 18] rfl
  have hDc := hD.sub (ws' := [(a 5, .inr (2, [.int (P 0 4), .ref (a 50), .ref (a 51), .ref (a 52), .ref (a 53), .ref (a 54), .ref (a 55), .ref (a 56), .ref (a 57), .ref (a 58), .ref (a 59)])), (a 50, .inl (cI, 60, .inl (P 50))), (a 51, .inl (cI, 60, .inl (P 51))), (a 52, .inl (cI, 60, .inl (P 52))), (a 53, .inl (cI, 60, .inl (P 53))), (a 54, .inl (cI, 60, .inl (P 54))), (a 55, .inl (cI, 60, .inl (P 55))), (a 56, .inl (cI, 60, .inl (P 56))), (a 57, .inl (cI, 60, .inl (P 57))), (a 58, .inl (cI, 60, .inl (P 58))), (a 59, .inl (cI, 12000, .inl (P 59)))]) [2, 9, 10, 11, 12, 13, 14, 15, 16, 17, 18] (by decide) rfl
  refine vp_callSi (W.runV (As := [.int x, .int y]) (rest := [.int ((sg_unitsAt P x y) + (sg_unitsTo P x y))]) ⟨hx, hb, hml, hown, hts⟩ (c_openUnitsFrom l D cI cZ cJ lo s.heap.size a P x y hw) (cwV 2 hts gX6_positionAt_X2_openUnitsFrom rfl rfl rfl (by decide +kernel) ⟨(Nat.le_of_ble_eq_true rfl), (Nat.le_of_ble_eq_true rfl)⟩) ⟨Pre.blind, va_recv hK hP (ci := 2) (q0 := 2) rfl rfl, Pre.mk hPc (hDc.weaken (fun _ _ _ h => hAlo _ h)) hC hS hAlo⟩ rfl rfl hl.1 rfl (lv_room (Nat.le_of_ble_eq_true rfl)) dX6_positionAt_25 ⟨(Nat.le_of_ble_eq_true rfl), (Nat.le_of_ble_eq_true rfl)⟩) (fun r_5 e_6 => ?_)
  clear hPc hDc
  have e_6 : sg_openUnitsFrom P x y = r_5 := Eq.symm e_6
  subst e_6
  refine lv_isub hx hb dX6_positionAt_28 ?_
  exact W.iret (v := (((sg_unitsAt P x y) + (sg_unitsTo P x y)) - (sg_openUnitsFrom P x y))) hx hb hr (fun t ht hW => ⟨(((sg_unitsAt P x y) + (sg_unitsTo P x y)) - (sg_openUnitsFrom P x y)), rfl, rfl, ht⟩) hL dX6_positionAt_29

def sg_lackAt (P : sg_Pic) (xi : Nat) (xs : Nat) : Int32 := (if (sg_stands P xi xs) = 0 then 0 else (if 0 < ((P 31 ((xi * 5) + xs)) - (sg_positionAt P (nI xi) (nI xs))) then ((P 31 ((xi * 5) + xs)) - (sg_positionAt P (nI xi) (nI xs))) else 0))

set_option maxHeartbeats 4000000 in
set_option maxRecDepth 100000 in
/-- X6_lackAt -/
theorem c_lackAt (l : Launch) (D : va_G) (cI cZ cJ : ClassId) (lo sz : Nat) (a : Nat → Nat) (P : sg_Pic) (xi : Nat) (xs : Nat) (hw : sg_W P) (hi : xi < 6) (hs : xs < 5) : Met l yX6_lackAt wsX6_lackAt ({ frames := 3, cells := 0, slots := 0, locals := 69 }) (Pre lo D cI cZ cJ [.ref (a 0), .int (nI xi), .int (nI xs)] sz [(a 0, .inr (6, [.int (P 0 0), .ref (a 1), .ref (a 2), .ref (a 3), .ref (a 4), .ref (a 5), .ref (a 6), .ref (a 70), .ref (a 71)])), (a 3, .inr (4, [.ref (a 30), .ref (a 31), .ref (a 32), .ref (a 33), .ref (a 34)])), (a 4, .inr (1, [.int (P 0 3), .ref (a 40), .ref (a 41), .ref (a 42), .ref (a 43), .ref (a 44)])), (a 5, .inr (2, [.int (P 0 4), .ref (a 50), .ref (a 51), .ref (a 52), .ref (a 53), .ref (a 54), .ref (a 55), .ref (a 56), .ref (a 57), .ref (a 58), .ref (a 59)])), (a 6, .inr (7, [.int (P 0 5), .ref (a 60), .ref (a 61), .ref (a 62), .ref (a 63), .ref (a 64), .ref (a 65)])), (a 30, .inl (cZ, 30, .inl (P 30))), (a 31, .inl (cI, 30, .inl (P 31))), (a 32, .inl (cI, 30, .inl (P 32))), (a 33, .inl (cI, 30, .inl (P 33))), (a 34, .inl (cI, 30, .inl (P 34))), (a 40, .inl (cI, 200, .inl (P 40))), (a 41, .inl (cI, 200, .inl (P 41))), (a 42, .inl (cI, 200, .inl (P 42))), (a 43, .inl (cI, 200, .inl (P 43))), (a 44, .inl (cI, 200, .inl (P 44))), (a 50, .inl (cI, 60, .inl (P 50))), (a 51, .inl (cI, 60, .inl (P 51))), (a 52, .inl (cI, 60, .inl (P 52))), (a 53, .inl (cI, 60, .inl (P 53))), (a 54, .inl (cI, 60, .inl (P 54))), (a 55, .inl (cI, 60, .inl (P 55))), (a 56, .inl (cI, 60, .inl (P 56))), (a 57, .inl (cI, 60, .inl (P 57))), (a 58, .inl (cI, 60, .inl (P 58))), (a 59, .inl (cI, 12000, .inl (P 59))), (a 60, .inl (cI, 90, .inl (P 60))), (a 61, .inl (cI, 90, .inl (P 61))), (a 62, .inl (cI, 90, .inl (P 62))), (a 63, .inl (cI, 90, .inl (P 63))), (a 64, .inl (cI, 90, .inl (P 64))), (a 65, .inl (cI, 90, .inl (P 65)))]) (vp_Si (fun r => r = sg_lackAt P xi xs)) 0 0 (fun _ => False) := by
  refine Met.ofW (cc := cX6_lackAt) (maxL := 3) (ret := (some .int)) (by decide) rfl ?_
  intro p e s m args below meth c s₁ B hml hv
  obtain ⟨rfl, hsz, hP, hD0, hC⟩ := hv
  have hx := B.exec
  have hb := B.bytes
  have hr := B.returns
  have hts := atoms_spec (ws := wsX6_lackAt) B.pre
  have hown : s.vm.findClass RX6 = some m.cls := findClass_of_methodNamed B.named
  have hlocks := B.notSynchronized
  subst hsz
  have hn1 : sg_cn P 1 ≤ 6 := hw.n1
  have hn2 : sg_cn P 2 ≤ 5 := hw.n2
  have hn3 : sg_cn P 3 ≤ 200 := hw.n3
  have hn4 : sg_cn P 4 ≤ 60 := hw.n4
  have hn5 : sg_cn P 5 ≤ 90 := hw.n5
  have hK := hC.K
  have hD := hD0
  have hS : va_S (fun q => lo ≤ q) s.heap s.heap [] := va_S.rf
  have hAlo : ∀ q, (fun q => lo ≤ q) q → lo ≤ q := fun _ h => h
  have hL : ∀ q ∈ ([] : List Loc), (fun _ : Addr => False) q.base := fun q h => by cases h
  have hP : va_P D vwCl [(a 0, .inr (6, [.int (P 0 0), .ref (a 1), .ref (a 2), .ref (a 3), .ref (a 4), .ref (a 5), .ref (a 6), .ref (a 70), .ref (a 71)])), (a 3, .inr (4, [.ref (a 30), .ref (a 31), .ref (a 32), .ref (a 33), .ref (a 34)])), (a 4, .inr (1, [.int (P 0 3), .ref (a 40), .ref (a 41), .ref (a 42), .ref (a 43), .ref (a 44)])), (a 5, .inr (2, [.int (P 0 4), .ref (a 50), .ref (a 51), .ref (a 52), .ref (a 53), .ref (a 54), .ref (a 55), .ref (a 56), .ref (a 57), .ref (a 58), .ref (a 59)])), (a 6, .inr (7, [.int (P 0 5), .ref (a 60), .ref (a 61), .ref (a 62), .ref (a 63), .ref (a 64), .ref (a 65)])), (a 30, .inl (cZ, 30, .inl (P 30))), (a 31, .inl (cI, 30, .inl (P 31))), (a 32, .inl (cI, 30, .inl (P 32))), (a 33, .inl (cI, 30, .inl (P 33))), (a 34, .inl (cI, 30, .inl (P 34))), (a 40, .inl (cI, 200, .inl (P 40))), (a 41, .inl (cI, 200, .inl (P 41))), (a 42, .inl (cI, 200, .inl (P 42))), (a 43, .inl (cI, 200, .inl (P 43))), (a 44, .inl (cI, 200, .inl (P 44))), (a 50, .inl (cI, 60, .inl (P 50))), (a 51, .inl (cI, 60, .inl (P 51))), (a 52, .inl (cI, 60, .inl (P 52))), (a 53, .inl (cI, 60, .inl (P 53))), (a 54, .inl (cI, 60, .inl (P 54))), (a 55, .inl (cI, 60, .inl (P 55))), (a 56, .inl (cI, 60, .inl (P 56))), (a 57, .inl (cI, 60, .inl (P 57))), (a 58, .inl (cI, 60, .inl (P 58))), (a 59, .inl (cI, 12000, .inl (P 59))), (a 60, .inl (cI, 90, .inl (P 60))), (a 61, .inl (cI, 90, .inl (P 61))), (a 62, .inl (cI, 90, .inl (P 62))), (a 63, .inl (cI, 90, .inl (P 63))), (a 64, .inl (cI, 90, .inl (P 64))), (a 65, .inl (cI, 90, .inl (P 65)))] s.heap := hP
  have hl := lv_entry ([.ref (a 0), .int (nI xi), .int (nI xs)]) (n := 3) (Nat.le_of_ble_eq_true rfl)
  rw [lg_entry_eq]
  generalize (lg_sl ([.ref (a 0), .int (nI xi), .int (nI xs)]) ++ List.replicate (3 - (lg_sl ([.ref (a 0), .int (nI xi), .int (nI xs)])).length) Slot.unset).toArray = ls at hl ⊢
  have hl : lv_has ls 3 [(0, .ref (a 0)), (1, .int (nI xi)), (2, .int (nI xs))] := hl
  have in4 : ∀ w ∈ u_ws RX4 TX4 5, w ∈ wsX6_lackAt := by decide +kernel
  have in6 : ∀ w ∈ u_ws RX6 TX6 9, w ∈ wsX6_lackAt := by decide +kernel
  refine lv_aload_n hx hb dX6_lackAt_0 rfl (lv_at hl 0 rfl) ?_
  refine va_get (D := D) (ci := 6) (v := .ref (a 3)) (C := RX6) (T := TX6) (N := 9) hx hb hts in6 hown hK hP 0 rfl rfl 3 (by decide) (hts (.fieldLink RX6 28 "Granary$Stock" "policies" "LGranary$Policies;") (by decide +kernel)) (fun _ h9 => h9) rfl dX6_lackAt_1 ?_
  refine lv_iload_n hx hb dX6_lackAt_4 rfl (lv_at hl 1 rfl) ?_
  refine lv_iload_n hx hb dX6_lackAt_5 rfl (lv_at hl 2 rfl) ?_
  have hPc := hP.sub (ws' := [(a 3, .inr (4, [.ref (a 30), .ref (a 31), .ref (a 32), .ref (a 33), .ref (a 34)])), (a 30, .inl (cZ, 30, .inl (P 30)))]) [1, 5] rfl
  have hDc := hD.sub (ws' := [(a 3, .inr (4, [.ref (a 30), .ref (a 31), .ref (a 32), .ref (a 33), .ref (a 34)])), (a 30, .inl (cZ, 30, .inl (P 30)))]) [1, 5] (by decide) rfl
  refine vp_callSi (W.runV (As := [.int (nI xi), .int (nI xs)]) (rest := []) ⟨hx, hb, hml, hown, hts⟩ (c_stands l D cI cZ cJ lo s.heap.size a P xi xs hw (by omega) (by omega)) (cwV 2 hts gX6_lackAt_X4_stands rfl rfl rfl (by decide +kernel) ⟨(Nat.le_of_ble_eq_true rfl), (Nat.le_of_ble_eq_true rfl)⟩) ⟨Pre.blind, va_recv hK hP (ci := 4) (q0 := 1) rfl rfl, Pre.mk hPc (hDc.weaken (fun _ _ _ h => hAlo _ h)) hC hS hAlo⟩ rfl rfl hl.1 rfl (lv_room (Nat.le_of_ble_eq_true rfl)) dX6_lackAt_6 ⟨(Nat.le_of_ble_eq_true rfl), (Nat.le_of_ble_eq_true rfl)⟩) (fun r_1 e_2 => ?_)
  clear hPc hDc
  have e_2 : sg_stands P xi xs = r_1 := Eq.symm e_2
  subst e_2
  refine lv_if_ne (tgt := 14) hx hb dX6_lackAt_9 (by decide) (fun c_3 => ?_) (fun c_3 => ?_)
  · refine lv_iconst (v := 0) hx hb dX6_lackAt_14 (by decide) ?_
    refine lv_aload_n hx hb dX6_lackAt_15 rfl (lv_at hl 0 rfl) ?_
    refine va_get (D := D) (ci := 6) (v := .ref (a 3)) (C := RX6) (T := TX6) (N := 9) hx hb hts in6 hown hK hP 0 rfl rfl 3 (by decide) (hts (.fieldLink RX6 28 "Granary$Stock" "policies" "LGranary$Policies;") (by decide +kernel)) (fun _ h9 => h9) rfl dX6_lackAt_16 ?_
    refine va_get (D := D) (ci := 4) (v := .ref (a 31)) (C := RX4) (T := TX4) (N := 5) hx hb hts in4 hown hK hP 1 rfl rfl 1 (by decide) (hts (.fieldLink RX6 114 "Granary$Policies" "point" "[I") (by decide +kernel)) (fun _ h9 => h9) rfl dX6_lackAt_19 ?_
    refine lv_iload_n hx hb dX6_lackAt_22 rfl (lv_at hl 1 rfl) ?_
    refine lv_iload_n hx hb dX6_lackAt_23 rfl (lv_at hl 2 rfl) ?_
    have hPc := hP.sub (ws' := []) [] rfl
    have hDc := hD.sub (ws' := []) [] (by decide) rfl
    refine vp_callSi (sg_dr (va_runSN (As := [.int (nI xi), .int (nI xs)]) (rest := [.ref (a 31), .int 0]) ⟨hx, hb, hml, hown, hts⟩ (c_pair l D cI cZ cJ lo s.heap.size xi xs) ⟨va_cnB 2 hts gX6_lackAt_X8_pair_n117 rfl rfl rfl (hC.nestX6_117) (hts (.initialized RX8) (by decide +kernel)) (by decide +kernel) ⟨(Nat.le_of_ble_eq_true rfl), (Nat.le_of_ble_eq_true rfl)⟩, (hts (.static yX8_pair) (by decide +kernel)), trivial⟩ ⟨Pre.blind, Pre.mk hPc (hDc.weaken (fun _ _ _ h => hAlo _ h)) hC hS hAlo⟩ rfl rfl hl.1 rfl (lv_room (Nat.le_of_ble_eq_true rfl)) dX6_lackAt_24 ⟨(Nat.le_of_ble_eq_true rfl), (Nat.le_of_ble_eq_true rfl)⟩)) (fun r_4 e_5 => ?_)
    clear hPc hDc
    have e_5 : nI ((xi * 5) + xs) = r_4 := Eq.symm e_5
    subst e_5
    refine sg_iald hx hb hK hP 6 0 rfl rfl (j := (xi * 5) + xs) rfl (by omega) (Nat.le_of_ble_eq_true rfl) dX6_lackAt_27 ?_
    refine lv_toi (y := P 31 ((xi * 5) + xs)) rfl ?_
    refine lv_aload_n hx hb dX6_lackAt_28 rfl (lv_at hl 0 rfl) ?_
    refine lv_iload_n hx hb dX6_lackAt_29 rfl (lv_at hl 1 rfl) ?_
    refine lv_iload_n hx hb dX6_lackAt_30 rfl (lv_at hl 2 rfl) ?_
    have hPc := hP.sub (ws' := [(a 0, .inr (6, [.int (P 0 0), .ref (a 1), .ref (a 2), .ref (a 3), .ref (a 4), .ref (a 5), .ref (a 6), .ref (a 70), .ref (a 71)])), (a 4, .inr (1, [.int (P 0 3), .ref (a 40), .ref (a 41), .ref (a 42), .ref (a 43), .ref (a 44)])), (a 5, .inr (2, [.int (P 0 4), .ref (a 50), .ref (a 51), .ref (a 52), .ref (a 53), .ref (a 54), .ref (a 55), .ref (a 56), .ref (a 57), .ref (a 58), .ref (a 59)])), (a 6, .inr (7, [.int (P 0 5), .ref (a 60), .ref (a 61), .ref (a 62), .ref (a 63), .ref (a 64), .ref (a 65)])), (a 40, .inl (cI, 200, .inl (P 40))), (a 41, .inl (cI, 200, .inl (P 41))), (a 42, .inl (cI, 200, .inl (P 42))), (a 43, .inl (cI, 200, .inl (P 43))), (a 44, .inl (cI, 200, .inl (P 44))), (a 50, .inl (cI, 60, .inl (P 50))), (a 51, .inl (cI, 60, .inl (P 51))), (a 52, .inl (cI, 60, .inl (P 52))), (a 53, .inl (cI, 60, .inl (P 53))), (a 54, .inl (cI, 60, .inl (P 54))), (a 55, .inl (cI, 60, .inl (P 55))), (a 56, .inl (cI, 60, .inl (P 56))), (a 57, .inl (cI, 60, .inl (P 57))), (a 58, .inl (cI, 60, .inl (P 58))), (a 59, .inl (cI, 12000, .inl (P 59))), (a 60, .inl (cI, 90, .inl (P 60))), (a 61, .inl (cI, 90, .inl (P 61))), (a 62, .inl (cI, 90, .inl (P 62))), (a 63, .inl (cI, 90, .inl (P 63))), (a 64, .inl (cI, 90, .inl (P 64))), (a 65, .inl (cI, 90, .inl (P 65)))]) [0, 2, 3, 4, 10, 11, 12, 13, 14, 15, 16, 17, 18, 19, 20, 21, 22, 23, 24, 25, 26, 27, 28, 29, 30] rfl
    have hDc := hD.sub (ws' := [(a 0, .inr (6, [.int (P 0 0), .ref (a 1), .ref (a 2), .ref (a 3), .ref (a 4), .ref (a 5), .ref (a 6), .ref (a 70), .ref (a 71)])), (a 4, .inr (1, [.int (P 0 3), .ref (a 40), .ref (a 41), .ref (a 42), .ref (a 43), .ref (a 44)])), (a 5, .inr (2, [.int (P 0 4), .ref (a 50), .ref (a 51), .ref (a 52), .ref (a 53), .ref (a 54), .ref (a 55), .ref (a 56), .ref (a 57), .ref (a 58), .ref (a 59)])), (a 6, .inr (7, [.int (P 0 5), .ref (a 60), .ref (a 61), .ref (a 62), .ref (a 63), .ref (a 64), .ref (a 65)])), (a 40, .inl (cI, 200, .inl (P 40))), (a 41, .inl (cI, 200, .inl (P 41))), (a 42, .inl (cI, 200, .inl (P 42))), (a 43, .inl (cI, 200, .inl (P 43))), (a 44, .inl (cI, 200, .inl (P 44))), (a 50, .inl (cI, 60, .inl (P 50))), (a 51, .inl (cI, 60, .inl (P 51))), (a 52, .inl (cI, 60, .inl (P 52))), (a 53, .inl (cI, 60, .inl (P 53))), (a 54, .inl (cI, 60, .inl (P 54))), (a 55, .inl (cI, 60, .inl (P 55))), (a 56, .inl (cI, 60, .inl (P 56))), (a 57, .inl (cI, 60, .inl (P 57))), (a 58, .inl (cI, 60, .inl (P 58))), (a 59, .inl (cI, 12000, .inl (P 59))), (a 60, .inl (cI, 90, .inl (P 60))), (a 61, .inl (cI, 90, .inl (P 61))), (a 62, .inl (cI, 90, .inl (P 62))), (a 63, .inl (cI, 90, .inl (P 63))), (a 64, .inl (cI, 90, .inl (P 64))), (a 65, .inl (cI, 90, .inl (P 65)))]) [0, 2, 3, 4, 10, 11, 12, 13, 14, 15, 16, 17, 18, 19, 20, 21, 22, 23, 24, 25, 26, 27, 28, 29, 30] (by decide) rfl
    refine vp_callSi (W.runV (As := [.int (nI xi), .int (nI xs)]) (rest := [.int (P 31 ((xi * 5) + xs)), .int 0]) ⟨hx, hb, hml, hown, hts⟩ (c_positionAt l D cI cZ cJ lo s.heap.size a P (nI xi) (nI xs) hw) (cwV 2 hts gX6_lackAt_X6_positionAt rfl rfl rfl (by decide +kernel) ⟨(Nat.le_of_ble_eq_true rfl), (Nat.le_of_ble_eq_true rfl)⟩) ⟨Pre.blind, va_recv hK hP (ci := 6) (q0 := 0) rfl rfl, Pre.mk hPc (hDc.weaken (fun _ _ _ h => hAlo _ h)) hC hS hAlo⟩ rfl rfl hl.1 rfl (lv_room (Nat.le_of_ble_eq_true rfl)) dX6_lackAt_31 ⟨(Nat.le_of_ble_eq_true rfl), (Nat.le_of_ble_eq_true rfl)⟩) (fun r_6 e_7 => ?_)
    clear hPc hDc
    have e_7 : sg_positionAt P (nI xi) (nI xs) = r_6 := Eq.symm e_7
    subst e_7
    refine lv_isub hx hb dX6_lackAt_34 ?_
    refine va_mmax hx hb (hml.trans hl.1.symm) hown (hts (.methodLink RX6 123 Lib.Math.max.name) (by decide +kernel)) (hts (.static Lib.Math.max.name) (by decide +kernel)) (hts (.initialized "java/lang/Math") (by decide +kernel)) (hts (.code Lib.Math.max.name Lib.Math.max.code 2 (some .int)) (by decide +kernel)) (Nat.le_of_ble_eq_true rfl) (Nat.le_of_ble_eq_true rfl) (Nat.le_of_ble_eq_true rfl) (Nat.le_of_ble_eq_true rfl) dX6_lackAt_35 ?_
    exact W.iret (v := (if 0 < ((P 31 ((xi * 5) + xs)) - (sg_positionAt P (nI xi) (nI xs))) then ((P 31 ((xi * 5) + xs)) - (sg_positionAt P (nI xi) (nI xs))) else 0)) hx hb hr (fun t ht hW => ⟨(if 0 < ((P 31 ((xi * 5) + xs)) - (sg_positionAt P (nI xi) (nI xs))) then ((P 31 ((xi * 5) + xs)) - (sg_positionAt P (nI xi) (nI xs))) else 0), rfl, (show (if 0 < ((P 31 ((xi * 5) + xs)) - (sg_positionAt P (nI xi) (nI xs))) then ((P 31 ((xi * 5) + xs)) - (sg_positionAt P (nI xi) (nI xs))) else 0 : Int32) = sg_lackAt P xi xs from by rw [sg_lackAt, if_neg c_3]), ht⟩) hL dX6_lackAt_38
  · refine lv_iconst (v := 0) hx hb dX6_lackAt_12 (by decide) ?_
    exact W.iret (v := 0) hx hb hr (fun t ht hW => ⟨0, rfl, (show (0 : Int32) = sg_lackAt P xi xs from by rw [sg_lackAt, if_pos c_3]), ht⟩) hL dX6_lackAt_13

def sg_spareAt (P : sg_Pic) (xi : Nat) (xs : Nat) : Int32 := (if (sg_stands P xi xs) = 0 then 0 else (if 0 < (if (sg_freeAt P (nI xi) (nI xs)) < ((sg_positionAt P (nI xi) (nI xs)) - (P 32 ((xi * 5) + xs))) then (sg_freeAt P (nI xi) (nI xs)) else ((sg_positionAt P (nI xi) (nI xs)) - (P 32 ((xi * 5) + xs)))) then (if (sg_freeAt P (nI xi) (nI xs)) < ((sg_positionAt P (nI xi) (nI xs)) - (P 32 ((xi * 5) + xs))) then (sg_freeAt P (nI xi) (nI xs)) else ((sg_positionAt P (nI xi) (nI xs)) - (P 32 ((xi * 5) + xs)))) else 0))

set_option maxHeartbeats 4000000 in
set_option maxRecDepth 100000 in
/-- X6_spareAt -/
theorem c_spareAt (l : Launch) (D : va_G) (cI cZ cJ : ClassId) (lo sz : Nat) (a : Nat → Nat) (P : sg_Pic) (xi : Nat) (xs : Nat) (hw : sg_W P) (hi : xi < 6) (hs : xs < 5) : Met l yX6_spareAt wsX6_spareAt ({ frames := 3, cells := 0, slots := 0, locals := 69 }) (Pre lo D cI cZ cJ [.ref (a 0), .int (nI xi), .int (nI xs)] sz [(a 0, .inr (6, [.int (P 0 0), .ref (a 1), .ref (a 2), .ref (a 3), .ref (a 4), .ref (a 5), .ref (a 6), .ref (a 70), .ref (a 71)])), (a 3, .inr (4, [.ref (a 30), .ref (a 31), .ref (a 32), .ref (a 33), .ref (a 34)])), (a 4, .inr (1, [.int (P 0 3), .ref (a 40), .ref (a 41), .ref (a 42), .ref (a 43), .ref (a 44)])), (a 5, .inr (2, [.int (P 0 4), .ref (a 50), .ref (a 51), .ref (a 52), .ref (a 53), .ref (a 54), .ref (a 55), .ref (a 56), .ref (a 57), .ref (a 58), .ref (a 59)])), (a 6, .inr (7, [.int (P 0 5), .ref (a 60), .ref (a 61), .ref (a 62), .ref (a 63), .ref (a 64), .ref (a 65)])), (a 30, .inl (cZ, 30, .inl (P 30))), (a 31, .inl (cI, 30, .inl (P 31))), (a 32, .inl (cI, 30, .inl (P 32))), (a 33, .inl (cI, 30, .inl (P 33))), (a 34, .inl (cI, 30, .inl (P 34))), (a 40, .inl (cI, 200, .inl (P 40))), (a 41, .inl (cI, 200, .inl (P 41))), (a 42, .inl (cI, 200, .inl (P 42))), (a 43, .inl (cI, 200, .inl (P 43))), (a 44, .inl (cI, 200, .inl (P 44))), (a 50, .inl (cI, 60, .inl (P 50))), (a 51, .inl (cI, 60, .inl (P 51))), (a 52, .inl (cI, 60, .inl (P 52))), (a 53, .inl (cI, 60, .inl (P 53))), (a 54, .inl (cI, 60, .inl (P 54))), (a 55, .inl (cI, 60, .inl (P 55))), (a 56, .inl (cI, 60, .inl (P 56))), (a 57, .inl (cI, 60, .inl (P 57))), (a 58, .inl (cI, 60, .inl (P 58))), (a 59, .inl (cI, 12000, .inl (P 59))), (a 60, .inl (cI, 90, .inl (P 60))), (a 61, .inl (cI, 90, .inl (P 61))), (a 62, .inl (cI, 90, .inl (P 62))), (a 63, .inl (cI, 90, .inl (P 63))), (a 64, .inl (cI, 90, .inl (P 64))), (a 65, .inl (cI, 90, .inl (P 65)))]) (vp_Si (fun r => r = sg_spareAt P xi xs)) 0 0 (fun _ => False) := by
  refine Met.ofW (cc := cX6_spareAt) (maxL := 4) (ret := (some .int)) (by decide) rfl ?_
  intro p e s m args below meth c s₁ B hml hv
  obtain ⟨rfl, hsz, hP, hD0, hC⟩ := hv
  have hx := B.exec
  have hb := B.bytes
  have hr := B.returns
  have hts := atoms_spec (ws := wsX6_spareAt) B.pre
  have hown : s.vm.findClass RX6 = some m.cls := findClass_of_methodNamed B.named
  have hlocks := B.notSynchronized
  subst hsz
  have hn1 : sg_cn P 1 ≤ 6 := hw.n1
  have hn2 : sg_cn P 2 ≤ 5 := hw.n2
  have hn3 : sg_cn P 3 ≤ 200 := hw.n3
  have hn4 : sg_cn P 4 ≤ 60 := hw.n4
  have hn5 : sg_cn P 5 ≤ 90 := hw.n5
  have hK := hC.K
  have hD := hD0
  have hS : va_S (fun q => lo ≤ q) s.heap s.heap [] := va_S.rf
  have hAlo : ∀ q, (fun q => lo ≤ q) q → lo ≤ q := fun _ h => h
  have hL : ∀ q ∈ ([] : List Loc), (fun _ : Addr => False) q.base := fun q h => by cases h
  have hP : va_P D vwCl [(a 0, .inr (6, [.int (P 0 0), .ref (a 1), .ref (a 2), .ref (a 3), .ref (a 4), .ref (a 5), .ref (a 6), .ref (a 70), .ref (a 71)])), (a 3, .inr (4, [.ref (a 30), .ref (a 31), .ref (a 32), .ref (a 33), .ref (a 34)])), (a 4, .inr (1, [.int (P 0 3), .ref (a 40), .ref (a 41), .ref (a 42), .ref (a 43), .ref (a 44)])), (a 5, .inr (2, [.int (P 0 4), .ref (a 50), .ref (a 51), .ref (a 52), .ref (a 53), .ref (a 54), .ref (a 55), .ref (a 56), .ref (a 57), .ref (a 58), .ref (a 59)])), (a 6, .inr (7, [.int (P 0 5), .ref (a 60), .ref (a 61), .ref (a 62), .ref (a 63), .ref (a 64), .ref (a 65)])), (a 30, .inl (cZ, 30, .inl (P 30))), (a 31, .inl (cI, 30, .inl (P 31))), (a 32, .inl (cI, 30, .inl (P 32))), (a 33, .inl (cI, 30, .inl (P 33))), (a 34, .inl (cI, 30, .inl (P 34))), (a 40, .inl (cI, 200, .inl (P 40))), (a 41, .inl (cI, 200, .inl (P 41))), (a 42, .inl (cI, 200, .inl (P 42))), (a 43, .inl (cI, 200, .inl (P 43))), (a 44, .inl (cI, 200, .inl (P 44))), (a 50, .inl (cI, 60, .inl (P 50))), (a 51, .inl (cI, 60, .inl (P 51))), (a 52, .inl (cI, 60, .inl (P 52))), (a 53, .inl (cI, 60, .inl (P 53))), (a 54, .inl (cI, 60, .inl (P 54))), (a 55, .inl (cI, 60, .inl (P 55))), (a 56, .inl (cI, 60, .inl (P 56))), (a 57, .inl (cI, 60, .inl (P 57))), (a 58, .inl (cI, 60, .inl (P 58))), (a 59, .inl (cI, 12000, .inl (P 59))), (a 60, .inl (cI, 90, .inl (P 60))), (a 61, .inl (cI, 90, .inl (P 61))), (a 62, .inl (cI, 90, .inl (P 62))), (a 63, .inl (cI, 90, .inl (P 63))), (a 64, .inl (cI, 90, .inl (P 64))), (a 65, .inl (cI, 90, .inl (P 65)))] s.heap := hP
  have hl := lv_entry ([.ref (a 0), .int (nI xi), .int (nI xs)]) (n := 4) (Nat.le_of_ble_eq_true rfl)
  rw [lg_entry_eq]
  generalize (lg_sl ([.ref (a 0), .int (nI xi), .int (nI xs)]) ++ List.replicate (4 - (lg_sl ([.ref (a 0), .int (nI xi), .int (nI xs)])).length) Slot.unset).toArray = ls at hl ⊢
  have hl : lv_has ls 4 [(0, .ref (a 0)), (1, .int (nI xi)), (2, .int (nI xs))] := hl
  have in4 : ∀ w ∈ u_ws RX4 TX4 5, w ∈ wsX6_spareAt := by decide +kernel
  have in6 : ∀ w ∈ u_ws RX6 TX6 9, w ∈ wsX6_spareAt := by decide +kernel
  refine lv_aload_n hx hb dX6_spareAt_0 rfl (lv_at hl 0 rfl) ?_
  refine va_get (D := D) (ci := 6) (v := .ref (a 3)) (C := RX6) (T := TX6) (N := 9) hx hb hts in6 hown hK hP 0 rfl rfl 3 (by decide) (hts (.fieldLink RX6 28 "Granary$Stock" "policies" "LGranary$Policies;") (by decide +kernel)) (fun _ h9 => h9) rfl dX6_spareAt_1 ?_
  refine lv_iload_n hx hb dX6_spareAt_4 rfl (lv_at hl 1 rfl) ?_
  refine lv_iload_n hx hb dX6_spareAt_5 rfl (lv_at hl 2 rfl) ?_
  have hPc := hP.sub (ws' := [(a 3, .inr (4, [.ref (a 30), .ref (a 31), .ref (a 32), .ref (a 33), .ref (a 34)])), (a 30, .inl (cZ, 30, .inl (P 30)))]) [1, 5] rfl
  have hDc := hD.sub (ws' := [(a 3, .inr (4, [.ref (a 30), .ref (a 31), .ref (a 32), .ref (a 33), .ref (a 34)])), (a 30, .inl (cZ, 30, .inl (P 30)))]) [1, 5] (by decide) rfl
  refine vp_callSi (W.runV (As := [.int (nI xi), .int (nI xs)]) (rest := []) ⟨hx, hb, hml, hown, hts⟩ (c_stands l D cI cZ cJ lo s.heap.size a P xi xs hw (by omega) (by omega)) (cwV 2 hts gX6_spareAt_X4_stands rfl rfl rfl (by decide +kernel) ⟨(Nat.le_of_ble_eq_true rfl), (Nat.le_of_ble_eq_true rfl)⟩) ⟨Pre.blind, va_recv hK hP (ci := 4) (q0 := 1) rfl rfl, Pre.mk hPc (hDc.weaken (fun _ _ _ h => hAlo _ h)) hC hS hAlo⟩ rfl rfl hl.1 rfl (lv_room (Nat.le_of_ble_eq_true rfl)) dX6_spareAt_6 ⟨(Nat.le_of_ble_eq_true rfl), (Nat.le_of_ble_eq_true rfl)⟩) (fun r_1 e_2 => ?_)
  clear hPc hDc
  have e_2 : sg_stands P xi xs = r_1 := Eq.symm e_2
  subst e_2
  refine lv_if_ne (tgt := 14) hx hb dX6_spareAt_9 (by decide) (fun c_3 => ?_) (fun c_3 => ?_)
  · refine lv_aload_n hx hb dX6_spareAt_14 rfl (lv_at hl 0 rfl) ?_
    refine lv_iload_n hx hb dX6_spareAt_15 rfl (lv_at hl 1 rfl) ?_
    refine lv_iload_n hx hb dX6_spareAt_16 rfl (lv_at hl 2 rfl) ?_
    have hPc := hP.sub (ws' := [(a 0, .inr (6, [.int (P 0 0), .ref (a 1), .ref (a 2), .ref (a 3), .ref (a 4), .ref (a 5), .ref (a 6), .ref (a 70), .ref (a 71)])), (a 4, .inr (1, [.int (P 0 3), .ref (a 40), .ref (a 41), .ref (a 42), .ref (a 43), .ref (a 44)])), (a 5, .inr (2, [.int (P 0 4), .ref (a 50), .ref (a 51), .ref (a 52), .ref (a 53), .ref (a 54), .ref (a 55), .ref (a 56), .ref (a 57), .ref (a 58), .ref (a 59)])), (a 6, .inr (7, [.int (P 0 5), .ref (a 60), .ref (a 61), .ref (a 62), .ref (a 63), .ref (a 64), .ref (a 65)])), (a 40, .inl (cI, 200, .inl (P 40))), (a 41, .inl (cI, 200, .inl (P 41))), (a 42, .inl (cI, 200, .inl (P 42))), (a 43, .inl (cI, 200, .inl (P 43))), (a 44, .inl (cI, 200, .inl (P 44))), (a 50, .inl (cI, 60, .inl (P 50))), (a 51, .inl (cI, 60, .inl (P 51))), (a 52, .inl (cI, 60, .inl (P 52))), (a 53, .inl (cI, 60, .inl (P 53))), (a 54, .inl (cI, 60, .inl (P 54))), (a 55, .inl (cI, 60, .inl (P 55))), (a 56, .inl (cI, 60, .inl (P 56))), (a 57, .inl (cI, 60, .inl (P 57))), (a 58, .inl (cI, 60, .inl (P 58))), (a 59, .inl (cI, 12000, .inl (P 59))), (a 60, .inl (cI, 90, .inl (P 60))), (a 61, .inl (cI, 90, .inl (P 61))), (a 62, .inl (cI, 90, .inl (P 62))), (a 63, .inl (cI, 90, .inl (P 63))), (a 64, .inl (cI, 90, .inl (P 64))), (a 65, .inl (cI, 90, .inl (P 65)))]) [0, 2, 3, 4, 10, 11, 12, 13, 14, 15, 16, 17, 18, 19, 20, 21, 22, 23, 24, 25, 26, 27, 28, 29, 30] rfl
    have hDc := hD.sub (ws' := [(a 0, .inr (6, [.int (P 0 0), .ref (a 1), .ref (a 2), .ref (a 3), .ref (a 4), .ref (a 5), .ref (a 6), .ref (a 70), .ref (a 71)])), (a 4, .inr (1, [.int (P 0 3), .ref (a 40), .ref (a 41), .ref (a 42), .ref (a 43), .ref (a 44)])), (a 5, .inr (2, [.int (P 0 4), .ref (a 50), .ref (a 51), .ref (a 52), .ref (a 53), .ref (a 54), .ref (a 55), .ref (a 56), .ref (a 57), .ref (a 58), .ref (a 59)])), (a 6, .inr (7, [.int (P 0 5), .ref (a 60), .ref (a 61), .ref (a 62), .ref (a 63), .ref (a 64), .ref (a 65)])), (a 40, .inl (cI, 200, .inl (P 40))), (a 41, .inl (cI, 200, .inl (P 41))), (a 42, .inl (cI, 200, .inl (P 42))), (a 43, .inl (cI, 200, .inl (P 43))), (a 44, .inl (cI, 200, .inl (P 44))), (a 50, .inl (cI, 60, .inl (P 50))), (a 51, .inl (cI, 60, .inl (P 51))), (a 52, .inl (cI, 60, .inl (P 52))), (a 53, .inl (cI, 60, .inl (P 53))), (a 54, .inl (cI, 60, .inl (P 54))), (a 55, .inl (cI, 60, .inl (P 55))), (a 56, .inl (cI, 60, .inl (P 56))), (a 57, .inl (cI, 60, .inl (P 57))), (a 58, .inl (cI, 60, .inl (P 58))), (a 59, .inl (cI, 12000, .inl (P 59))), (a 60, .inl (cI, 90, .inl (P 60))), (a 61, .inl (cI, 90, .inl (P 61))), (a 62, .inl (cI, 90, .inl (P 62))), (a 63, .inl (cI, 90, .inl (P 63))), (a 64, .inl (cI, 90, .inl (P 64))), (a 65, .inl (cI, 90, .inl (P 65)))]) [0, 2, 3, 4, 10, 11, 12, 13, 14, 15, 16, 17, 18, 19, 20, 21, 22, 23, 24, 25, 26, 27, 28, 29, 30] (by decide) rfl
    refine vp_callSi (W.runV (As := [.int (nI xi), .int (nI xs)]) (rest := []) ⟨hx, hb, hml, hown, hts⟩ (c_positionAt l D cI cZ cJ lo s.heap.size a P (nI xi) (nI xs) hw) (cwV 2 hts gX6_spareAt_X6_positionAt rfl rfl rfl (by decide +kernel) ⟨(Nat.le_of_ble_eq_true rfl), (Nat.le_of_ble_eq_true rfl)⟩) ⟨Pre.blind, va_recv hK hP (ci := 6) (q0 := 0) rfl rfl, Pre.mk hPc (hDc.weaken (fun _ _ _ h => hAlo _ h)) hC hS hAlo⟩ rfl rfl hl.1 rfl (lv_room (Nat.le_of_ble_eq_true rfl)) dX6_spareAt_17 ⟨(Nat.le_of_ble_eq_true rfl), (Nat.le_of_ble_eq_true rfl)⟩) (fun r_4 e_5 => ?_)
    clear hPc hDc
    have e_5 : sg_positionAt P (nI xi) (nI xs) = r_4 := Eq.symm e_5
    subst e_5
    refine lv_aload_n hx hb dX6_spareAt_20 rfl (lv_at hl 0 rfl) ?_
    refine va_get (D := D) (ci := 6) (v := .ref (a 3)) (C := RX6) (T := TX6) (N := 9) hx hb hts in6 hown hK hP 0 rfl rfl 3 (by decide) (hts (.fieldLink RX6 28 "Granary$Stock" "policies" "LGranary$Policies;") (by decide +kernel)) (fun _ h9 => h9) rfl dX6_spareAt_21 ?_
    refine va_get (D := D) (ci := 4) (v := .ref (a 32)) (C := RX4) (T := TX4) (N := 5) hx hb hts in4 hown hK hP 1 rfl rfl 2 (by decide) (hts (.fieldLink RX6 128 "Granary$Policies" "top" "[I") (by decide +kernel)) (fun _ h9 => h9) rfl dX6_spareAt_24 ?_
    refine lv_iload_n hx hb dX6_spareAt_27 rfl (lv_at hl 1 rfl) ?_
    refine lv_iload_n hx hb dX6_spareAt_28 rfl (lv_at hl 2 rfl) ?_
    have hPc := hP.sub (ws' := []) [] rfl
    have hDc := hD.sub (ws' := []) [] (by decide) rfl
    refine vp_callSi (sg_dr (va_runSN (As := [.int (nI xi), .int (nI xs)]) (rest := [.ref (a 32), .int (sg_positionAt P (nI xi) (nI xs))]) ⟨hx, hb, hml, hown, hts⟩ (c_pair l D cI cZ cJ lo s.heap.size xi xs) ⟨va_cnB 2 hts gX6_spareAt_X8_pair_n117 rfl rfl rfl (hC.nestX6_117) (hts (.initialized RX8) (by decide +kernel)) (by decide +kernel) ⟨(Nat.le_of_ble_eq_true rfl), (Nat.le_of_ble_eq_true rfl)⟩, (hts (.static yX8_pair) (by decide +kernel)), trivial⟩ ⟨Pre.blind, Pre.mk hPc (hDc.weaken (fun _ _ _ h => hAlo _ h)) hC hS hAlo⟩ rfl rfl hl.1 rfl (lv_room (Nat.le_of_ble_eq_true rfl)) dX6_spareAt_29 ⟨(Nat.le_of_ble_eq_true rfl), (Nat.le_of_ble_eq_true rfl)⟩)) (fun r_6 e_7 => ?_)
    clear hPc hDc
    have e_7 : nI ((xi * 5) + xs) = r_6 := Eq.symm e_7
    subst e_7
    refine sg_iald hx hb hK hP 7 0 rfl rfl (j := (xi * 5) + xs) rfl (by omega) (Nat.le_of_ble_eq_true rfl) dX6_spareAt_32 ?_
    refine lv_toi (y := P 32 ((xi * 5) + xs)) rfl ?_
    refine lv_isub hx hb dX6_spareAt_33 ?_
    refine lv_istore_n (lv' := [(3, .int ((sg_positionAt P (nI xi) (nI xs)) - (P 32 ((xi * 5) + xs)))), (0, .ref (a 0)), (1, .int (nI xi)), (2, .int (nI xs))]) hx hb dX6_spareAt_34 rfl hl (by decide) rfl (fun ls hl => ?_)
    refine lv_iconst (v := 0) hx hb dX6_spareAt_35 (by decide) ?_
    refine lv_iload_n hx hb dX6_spareAt_36 rfl (lv_at hl 0 rfl) ?_
    refine lv_aload_n hx hb dX6_spareAt_37 rfl (lv_at hl 1 rfl) ?_
    refine va_get (D := D) (ci := 6) (v := .ref (a 4)) (C := RX6) (T := TX6) (N := 9) hx hb hts in6 hown hK hP 0 rfl rfl 4 (by decide) (hts (.fieldLink RX6 35 "Granary$Stock" "lots" "LGranary$Lots;") (by decide +kernel)) (fun _ h9 => h9) rfl dX6_spareAt_38 ?_
    refine lv_iload_n hx hb dX6_spareAt_41 rfl (lv_at hl 2 rfl) ?_
    refine lv_iload_n hx hb dX6_spareAt_42 rfl (lv_at hl 3 rfl) ?_
    have hPc := hP.sub (ws' := [(a 4, .inr (1, [.int (P 0 3), .ref (a 40), .ref (a 41), .ref (a 42), .ref (a 43), .ref (a 44)])), (a 40, .inl (cI, 200, .inl (P 40))), (a 41, .inl (cI, 200, .inl (P 41))), (a 42, .inl (cI, 200, .inl (P 42))), (a 43, .inl (cI, 200, .inl (P 43))), (a 44, .inl (cI, 200, .inl (P 44)))]) [2, 10, 11, 12, 13, 14] rfl
    have hDc := hD.sub (ws' := [(a 4, .inr (1, [.int (P 0 3), .ref (a 40), .ref (a 41), .ref (a 42), .ref (a 43), .ref (a 44)])), (a 40, .inl (cI, 200, .inl (P 40))), (a 41, .inl (cI, 200, .inl (P 41))), (a 42, .inl (cI, 200, .inl (P 42))), (a 43, .inl (cI, 200, .inl (P 43))), (a 44, .inl (cI, 200, .inl (P 44)))]) [2, 10, 11, 12, 13, 14] (by decide) rfl
    refine vp_callSi (W.runV (As := [.int (nI xi), .int (nI xs)]) (rest := [.int ((sg_positionAt P (nI xi) (nI xs)) - (P 32 ((xi * 5) + xs))), .int 0]) ⟨hx, hb, hml, hown, hts⟩ (c_freeAt l D cI cZ cJ lo s.heap.size a P (nI xi) (nI xs) hw) (cwV 2 hts gX6_spareAt_X1_freeAt rfl rfl rfl (by decide +kernel) ⟨(Nat.le_of_ble_eq_true rfl), (Nat.le_of_ble_eq_true rfl)⟩) ⟨Pre.blind, va_recv hK hP (ci := 1) (q0 := 2) rfl rfl, Pre.mk hPc (hDc.weaken (fun _ _ _ h => hAlo _ h)) hC hS hAlo⟩ rfl rfl hl.1 rfl (lv_room (Nat.le_of_ble_eq_true rfl)) dX6_spareAt_43 ⟨(Nat.le_of_ble_eq_true rfl), (Nat.le_of_ble_eq_true rfl)⟩) (fun r_8 e_9 => ?_)
    clear hPc hDc
    have e_9 : sg_freeAt P (nI xi) (nI xs) = r_8 := Eq.symm e_9
    subst e_9
    refine va_mmin hx hb (hml.trans hl.1.symm) hown (hts (.methodLink RX6 134 Lib.Math.min.name) (by decide +kernel)) (hts (.static Lib.Math.min.name) (by decide +kernel)) (hts (.initialized "java/lang/Math") (by decide +kernel)) (hts (.code Lib.Math.min.name Lib.Math.min.code 2 (some .int)) (by decide +kernel)) (Nat.le_of_ble_eq_true rfl) (Nat.le_of_ble_eq_true rfl) (Nat.le_of_ble_eq_true rfl) (Nat.le_of_ble_eq_true rfl) dX6_spareAt_46 ?_
    refine va_mmax hx hb (hml.trans hl.1.symm) hown (hts (.methodLink RX6 123 Lib.Math.max.name) (by decide +kernel)) (hts (.static Lib.Math.max.name) (by decide +kernel)) (hts (.initialized "java/lang/Math") (by decide +kernel)) (hts (.code Lib.Math.max.name Lib.Math.max.code 2 (some .int)) (by decide +kernel)) (Nat.le_of_ble_eq_true rfl) (Nat.le_of_ble_eq_true rfl) (Nat.le_of_ble_eq_true rfl) (Nat.le_of_ble_eq_true rfl) dX6_spareAt_49 ?_
    exact W.iret (v := (if 0 < (if (sg_freeAt P (nI xi) (nI xs)) < ((sg_positionAt P (nI xi) (nI xs)) - (P 32 ((xi * 5) + xs))) then (sg_freeAt P (nI xi) (nI xs)) else ((sg_positionAt P (nI xi) (nI xs)) - (P 32 ((xi * 5) + xs)))) then (if (sg_freeAt P (nI xi) (nI xs)) < ((sg_positionAt P (nI xi) (nI xs)) - (P 32 ((xi * 5) + xs))) then (sg_freeAt P (nI xi) (nI xs)) else ((sg_positionAt P (nI xi) (nI xs)) - (P 32 ((xi * 5) + xs)))) else 0)) hx hb hr (fun t ht hW => ⟨(if 0 < (if (sg_freeAt P (nI xi) (nI xs)) < ((sg_positionAt P (nI xi) (nI xs)) - (P 32 ((xi * 5) + xs))) then (sg_freeAt P (nI xi) (nI xs)) else ((sg_positionAt P (nI xi) (nI xs)) - (P 32 ((xi * 5) + xs)))) then (if (sg_freeAt P (nI xi) (nI xs)) < ((sg_positionAt P (nI xi) (nI xs)) - (P 32 ((xi * 5) + xs))) then (sg_freeAt P (nI xi) (nI xs)) else ((sg_positionAt P (nI xi) (nI xs)) - (P 32 ((xi * 5) + xs)))) else 0), rfl, (show (if 0 < (if (sg_freeAt P (nI xi) (nI xs)) < ((sg_positionAt P (nI xi) (nI xs)) - (P 32 ((xi * 5) + xs))) then (sg_freeAt P (nI xi) (nI xs)) else ((sg_positionAt P (nI xi) (nI xs)) - (P 32 ((xi * 5) + xs)))) then (if (sg_freeAt P (nI xi) (nI xs)) < ((sg_positionAt P (nI xi) (nI xs)) - (P 32 ((xi * 5) + xs))) then (sg_freeAt P (nI xi) (nI xs)) else ((sg_positionAt P (nI xi) (nI xs)) - (P 32 ((xi * 5) + xs)))) else 0 : Int32) = sg_spareAt P xi xs from by rw [sg_spareAt, if_neg c_3]), ht⟩) hL dX6_spareAt_52
  · refine lv_iconst (v := 0) hx hb dX6_spareAt_12 (by decide) ?_
    exact W.iret (v := 0) hx hb hr (fun t ht hW => ⟨0, rfl, (show (0 : Int32) = sg_spareAt P xi xs from by rw [sg_spareAt, if_pos c_3]), ht⟩) hL dX6_spareAt_13

def sg_rateOver (P : sg_Pic) (x : Int32) (y : Int32) (z : Int32) : Int32 := (sg_useWithin P x y (((P 0 0) - z) + 1) (P 0 0))

set_option maxHeartbeats 4000000 in
set_option maxRecDepth 100000 in
/-- X6_rateOver -/
theorem c_rateOver (l : Launch) (D : va_G) (cI cZ cJ : ClassId) (lo sz : Nat) (a : Nat → Nat) (P : sg_Pic) (x : Int32) (y : Int32) (z : Int32) (hw : sg_W P) : Met l yX6_rateOver wsX6_rateOver ({ frames := 2, cells := 0, slots := 0, locals := 49 }) (Pre lo D cI cZ cJ [.ref (a 0), .int x, .int y, .int z] sz [(a 0, .inr (6, [.int (P 0 0), .ref (a 1), .ref (a 2), .ref (a 3), .ref (a 4), .ref (a 5), .ref (a 6), .ref (a 70), .ref (a 71)])), (a 5, .inr (2, [.int (P 0 4), .ref (a 50), .ref (a 51), .ref (a 52), .ref (a 53), .ref (a 54), .ref (a 55), .ref (a 56), .ref (a 57), .ref (a 58), .ref (a 59)])), (a 50, .inl (cI, 60, .inl (P 50))), (a 51, .inl (cI, 60, .inl (P 51))), (a 52, .inl (cI, 60, .inl (P 52))), (a 53, .inl (cI, 60, .inl (P 53))), (a 54, .inl (cI, 60, .inl (P 54))), (a 55, .inl (cI, 60, .inl (P 55))), (a 56, .inl (cI, 60, .inl (P 56))), (a 57, .inl (cI, 60, .inl (P 57))), (a 58, .inl (cI, 60, .inl (P 58))), (a 59, .inl (cI, 12000, .inl (P 59)))]) (vp_Si (fun r => r = sg_rateOver P x y z)) 0 0 (fun _ => False) := by
  refine Met.ofW (cc := cX6_rateOver) (maxL := 4) (ret := (some .int)) (by decide) rfl ?_
  intro p e s m args below meth c s₁ B hml hv
  obtain ⟨rfl, hsz, hP, hD0, hC⟩ := hv
  have hx := B.exec
  have hb := B.bytes
  have hr := B.returns
  have hts := atoms_spec (ws := wsX6_rateOver) B.pre
  have hown : s.vm.findClass RX6 = some m.cls := findClass_of_methodNamed B.named
  have hlocks := B.notSynchronized
  subst hsz
  have hn1 : sg_cn P 1 ≤ 6 := hw.n1
  have hn2 : sg_cn P 2 ≤ 5 := hw.n2
  have hn3 : sg_cn P 3 ≤ 200 := hw.n3
  have hn4 : sg_cn P 4 ≤ 60 := hw.n4
  have hn5 : sg_cn P 5 ≤ 90 := hw.n5
  have hK := hC.K
  have hD := hD0
  have hS : va_S (fun q => lo ≤ q) s.heap s.heap [] := va_S.rf
  have hAlo : ∀ q, (fun q => lo ≤ q) q → lo ≤ q := fun _ h => h
  have hL : ∀ q ∈ ([] : List Loc), (fun _ : Addr => False) q.base := fun q h => by cases h
  have hP : va_P D vwCl [(a 0, .inr (6, [.int (P 0 0), .ref (a 1), .ref (a 2), .ref (a 3), .ref (a 4), .ref (a 5), .ref (a 6), .ref (a 70), .ref (a 71)])), (a 5, .inr (2, [.int (P 0 4), .ref (a 50), .ref (a 51), .ref (a 52), .ref (a 53), .ref (a 54), .ref (a 55), .ref (a 56), .ref (a 57), .ref (a 58), .ref (a 59)])), (a 50, .inl (cI, 60, .inl (P 50))), (a 51, .inl (cI, 60, .inl (P 51))), (a 52, .inl (cI, 60, .inl (P 52))), (a 53, .inl (cI, 60, .inl (P 53))), (a 54, .inl (cI, 60, .inl (P 54))), (a 55, .inl (cI, 60, .inl (P 55))), (a 56, .inl (cI, 60, .inl (P 56))), (a 57, .inl (cI, 60, .inl (P 57))), (a 58, .inl (cI, 60, .inl (P 58))), (a 59, .inl (cI, 12000, .inl (P 59)))] s.heap := hP
  have hl := lv_entry ([.ref (a 0), .int x, .int y, .int z]) (n := 4) (Nat.le_of_ble_eq_true rfl)
  rw [lg_entry_eq]
  generalize (lg_sl ([.ref (a 0), .int x, .int y, .int z]) ++ List.replicate (4 - (lg_sl ([.ref (a 0), .int x, .int y, .int z])).length) Slot.unset).toArray = ls at hl ⊢
  have hl : lv_has ls 4 [(0, .ref (a 0)), (1, .int x), (2, .int y), (3, .int z)] := hl
  have in6 : ∀ w ∈ u_ws RX6 TX6 9, w ∈ wsX6_rateOver := by decide +kernel
  refine lv_aload_n hx hb dX6_rateOver_0 rfl (lv_at hl 0 rfl) ?_
  refine va_get (D := D) (ci := 6) (v := .ref (a 5)) (C := RX6) (T := TX6) (N := 9) hx hb hts in6 hown hK hP 0 rfl rfl 5 (by decide) (hts (.fieldLink RX6 42 "Granary$Stock" "orders" "LGranary$Orders;") (by decide +kernel)) (fun _ h9 => h9) rfl dX6_rateOver_1 ?_
  refine lv_iload_n hx hb dX6_rateOver_4 rfl (lv_at hl 1 rfl) ?_
  refine lv_iload_n hx hb dX6_rateOver_5 rfl (lv_at hl 2 rfl) ?_
  refine lv_aload_n hx hb dX6_rateOver_6 rfl (lv_at hl 0 rfl) ?_
  refine va_get (D := D) (ci := 6) (v := .int (P 0 0)) (C := RX6) (T := TX6) (N := 9) hx hb hts in6 hown hK hP 0 rfl rfl 0 (by decide) (hts (.fieldLink RX6 60 "Granary$Stock" "day" "I") (by decide +kernel)) (fun _ h9 => h9) rfl dX6_rateOver_7 ?_
  refine lv_iload_n hx hb dX6_rateOver_10 rfl (lv_at hl 3 rfl) ?_
  refine lv_isub hx hb dX6_rateOver_11 ?_
  refine lv_iconst (v := 1) hx hb dX6_rateOver_12 (by decide) ?_
  refine lv_iadd hx hb dX6_rateOver_13 ?_
  refine lv_aload_n hx hb dX6_rateOver_14 rfl (lv_at hl 0 rfl) ?_
  refine va_get (D := D) (ci := 6) (v := .int (P 0 0)) (C := RX6) (T := TX6) (N := 9) hx hb hts in6 hown hK hP 0 rfl rfl 0 (by decide) (hts (.fieldLink RX6 60 "Granary$Stock" "day" "I") (by decide +kernel)) (fun _ h9 => h9) rfl dX6_rateOver_15 ?_
  have hPc := hP.sub (ws' := [(a 5, .inr (2, [.int (P 0 4), .ref (a 50), .ref (a 51), .ref (a 52), .ref (a 53), .ref (a 54), .ref (a 55), .ref (a 56), .ref (a 57), .ref (a 58), .ref (a 59)])), (a 50, .inl (cI, 60, .inl (P 50))), (a 51, .inl (cI, 60, .inl (P 51))), (a 52, .inl (cI, 60, .inl (P 52))), (a 53, .inl (cI, 60, .inl (P 53))), (a 54, .inl (cI, 60, .inl (P 54))), (a 55, .inl (cI, 60, .inl (P 55))), (a 56, .inl (cI, 60, .inl (P 56))), (a 57, .inl (cI, 60, .inl (P 57))), (a 58, .inl (cI, 60, .inl (P 58))), (a 59, .inl (cI, 12000, .inl (P 59)))]) [1, 2, 3, 4, 5, 6, 7, 8, 9, 10, 11] rfl
  have hDc := hD.sub (ws' := [(a 5, .inr (2, [.int (P 0 4), .ref (a 50), .ref (a 51), .ref (a 52), .ref (a 53), .ref (a 54), .ref (a 55), .ref (a 56), .ref (a 57), .ref (a 58), .ref (a 59)])), (a 50, .inl (cI, 60, .inl (P 50))), (a 51, .inl (cI, 60, .inl (P 51))), (a 52, .inl (cI, 60, .inl (P 52))), (a 53, .inl (cI, 60, .inl (P 53))), (a 54, .inl (cI, 60, .inl (P 54))), (a 55, .inl (cI, 60, .inl (P 55))), (a 56, .inl (cI, 60, .inl (P 56))), (a 57, .inl (cI, 60, .inl (P 57))), (a 58, .inl (cI, 60, .inl (P 58))), (a 59, .inl (cI, 12000, .inl (P 59)))]) [1, 2, 3, 4, 5, 6, 7, 8, 9, 10, 11] (by decide) rfl
  refine vp_callSi (W.runV (As := [.int x, .int y, .int (((P 0 0) - z) + 1), .int (P 0 0)]) (rest := []) ⟨hx, hb, hml, hown, hts⟩ (c_useWithin l D cI cZ cJ lo s.heap.size a P x y (((P 0 0) - z) + 1) (P 0 0) hw) (cwV 4 hts gX6_rateOver_X2_useWithin rfl rfl rfl (by decide +kernel) ⟨(Nat.le_of_ble_eq_true rfl), (Nat.le_of_ble_eq_true rfl)⟩) ⟨Pre.blind, va_recv hK hP (ci := 2) (q0 := 1) rfl rfl, Pre.mk hPc (hDc.weaken (fun _ _ _ h => hAlo _ h)) hC hS hAlo⟩ rfl rfl hl.1 rfl (lv_room (Nat.le_of_ble_eq_true rfl)) dX6_rateOver_18 ⟨(Nat.le_of_ble_eq_true rfl), (Nat.le_of_ble_eq_true rfl)⟩) (fun r_1 e_2 => ?_)
  clear hPc hDc
  have e_2 : sg_useWithin P x y (((P 0 0) - z) + 1) (P 0 0) = r_1 := Eq.symm e_2
  subst e_2
  exact W.iret (v := (sg_useWithin P x y (((P 0 0) - z) + 1) (P 0 0))) hx hb hr (fun t ht hW => ⟨(sg_useWithin P x y (((P 0 0) - z) + 1) (P 0 0)), rfl, rfl, ht⟩) hL dX6_rateOver_21
end
section
def tyX1 : Nat → FieldType := fun k => match k with
  | 0 => .int
  | 1 => .array .int
  | 2 => .array .int
  | 3 => .array .int
  | 4 => .array .int
  | _ => .array .int
theorem nmX1 : ∀ a, a < 6 → ∀ b, b < 6 → a ≠ b → (TX1 a).2.1 ≠ (TX1 b).2.1 := by decide +kernel
theorem tyX1_ok : ∀ k, k < 6 → parseFieldDescriptor (TX1 k).2.2.1 = some (tyX1 k) := by decide +kernel
abbrev cX1_add : ByteArray := prog_3_method_3_code
def yX1_add : MethodName := ⟨RX1, "add", "(IIII)I"⟩
abbrev cX6_hold : ByteArray := prog_8_method_8_code
def yX6_hold : MethodName := ⟨RX6, "hold", "(III)V"⟩
abbrev cX6_release : ByteArray := prog_8_method_9_code
def yX6_release : MethodName := ⟨RX6, "release", "(I)V"⟩
abbrev cX6_reserveFor : ByteArray := prog_8_method_10_code
def yX6_reserveFor : MethodName := ⟨RX6, "reserveFor", "(I)V"⟩
abbrev cX6_shipOrder : ByteArray := prog_8_method_13_code
def yX6_shipOrder : MethodName := ⟨RX6, "shipOrder", "(I)V"⟩
abbrev cX6_waste : ByteArray := prog_8_method_19_code
def yX6_waste : MethodName := ⟨RX6, "waste", "(II)V"⟩
def tyX7 : Nat → FieldType := fun k => match k with
  | 0 => .int
  | 1 => .array .int
  | 2 => .array .int
  | 3 => .array .int
  | 4 => .array .int
  | 5 => .array .int
  | _ => .array .int
theorem nmX7 : ∀ a, a < 7 → ∀ b, b < 7 → a ≠ b → (TX7 a).2.1 ≠ (TX7 b).2.1 := by decide +kernel
theorem tyX7_ok : ∀ k, k < 7 → parseFieldDescriptor (TX7 k).2.2.1 = some (tyX7 k) := by decide +kernel
abbrev cX7_add : ByteArray := prog_9_method_4_code
def yX7_add : MethodName := ⟨RX7, "add", "(IIIII)V"⟩
def wsX1_add : List Cond := .code yX1_add cX1_add 5 (some .int) :: ([.fieldLink RX1 27 "Granary$Lots" "count" "I", .fieldLink RX1 9 "Granary$Lots" "item" "[I", .fieldLink RX1 15 "Granary$Lots" "site" "[I", .fieldLink RX1 18 "Granary$Lots" "units" "[I", .fieldLink RX1 21 "Granary$Lots" "reserved" "[I", .fieldLink RX1 24 "Granary$Lots" "last" "[I"] ++ wsX10)
def wsX6_hold : List Cond := .code yX6_hold cX6_hold 4 none :: ([.fieldLink RX6 42 "Granary$Stock" "orders" "LGranary$Orders;", .fieldLink RX6 141 "Granary$Orders" "held" "[I", .fieldLink RX6 144 "Granary$Orders" "reserved" "[I", .fieldLink RX6 35 "Granary$Stock" "lots" "LGranary$Lots;", .fieldLink RX6 147 "Granary$Lots" "reserved" "[I"] ++ wsX60 ++ wsX20 ++ wsX10)
def wsX6_release : List Cond := .code yX6_release cX6_release 3 none :: ([.fieldLink RX6 35 "Granary$Stock" "lots" "LGranary$Lots;", .fieldLink RX6 148 "Granary$Lots" "count" "I", .fieldLink RX6 42 "Granary$Stock" "orders" "LGranary$Orders;", .methodLink RX6 151 yX2_heldOf, .instanceMethod yX2_heldOf, .selects RX2 yX2_heldOf yX2_heldOf, .initialized RX2, .code yX2_heldOf cX2_heldOf 3 (some .int), .fieldLink RX2 39 "Granary$Orders" "held" "[I", .methodLink RX6 154 yX6_hold, .instanceMethod yX6_hold, .selects RX6 yX6_hold yX6_hold, .initialized RX6, .code yX6_hold cX6_hold 4 none, .fieldLink RX6 141 "Granary$Orders" "held" "[I", .fieldLink RX6 144 "Granary$Orders" "reserved" "[I", .fieldLink RX6 147 "Granary$Lots" "reserved" "[I"] ++ wsX60 ++ wsX10 ++ wsX20)
def wsX6_reserveFor_r1 : List Cond := [Cond.fieldLink RX6 42 "Granary$Stock" "orders" "LGranary$Orders;", Cond.fieldLink RX6 158 "Granary$Orders" "due" "[I", Cond.fieldLink RX6 60 "Granary$Stock" "day" "I", Cond.methodLink RX6 123 Lib.Math.max.name, Cond.static Lib.Math.max.name, Cond.initialized "java/lang/Math", Cond.code Lib.Math.max.name Lib.Math.max.code 2 (some .int), Cond.fieldLink RX6 161 "Granary$Orders" "keep" "[I", Cond.fieldLink RX6 35 "Granary$Stock" "lots" "LGranary$Lots;", Cond.fieldLink RX6 167 "Granary$Orders" "item" "[I", Cond.fieldLink RX6 170 "Granary$Orders" "site" "[I", Cond.methodLink RX6 134 Lib.Math.min.name, Cond.static Lib.Math.min.name, Cond.code Lib.Math.min.name Lib.Math.min.code 2 (some .int), Cond.methodLink RX6 164 yX2_missing, Cond.instanceMethod yX2_missing, Cond.selects RX2 yX2_missing yX2_missing, Cond.initialized RX2, Cond.code yX2_missing cX2_missing 2 (some .int), Cond.fieldLink RX2 18 "Granary$Orders" "units" "[I", Cond.fieldLink RX2 21 "Granary$Orders" "reserved" "[I", Cond.methodLink RX6 173 yX1_firstFree, Cond.instanceMethod yX1_firstFree, Cond.selects RX1 yX1_firstFree yX1_firstFree]
def wsX6_reserveFor_r2 : List Cond := [Cond.initialized RX1, Cond.code yX1_firstFree cX1_firstFree 6 (some .int), Cond.fieldLink RX1 27 "Granary$Lots" "count" "I", Cond.fieldLink RX1 9 "Granary$Lots" "item" "[I", Cond.fieldLink RX1 15 "Granary$Lots" "site" "[I", Cond.fieldLink RX1 24 "Granary$Lots" "last" "[I", Cond.methodLink RX1 39 yX1_freeOf, Cond.instanceMethod yX1_freeOf, Cond.selects RX1 yX1_freeOf yX1_freeOf, Cond.code yX1_freeOf cX1_freeOf 2 (some .int), Cond.fieldLink RX1 18 "Granary$Lots" "units" "[I", Cond.fieldLink RX1 21 "Granary$Lots" "reserved" "[I", Cond.methodLink RX6 177 yX1_freeOf, Cond.methodLink RX6 154 yX6_hold, Cond.instanceMethod yX6_hold, Cond.selects RX6 yX6_hold yX6_hold, Cond.initialized RX6, Cond.code yX6_hold cX6_hold 4 none, Cond.fieldLink RX6 141 "Granary$Orders" "held" "[I", Cond.fieldLink RX6 144 "Granary$Orders" "reserved" "[I", Cond.fieldLink RX6 147 "Granary$Lots" "reserved" "[I"]
def wsX6_reserveFor : List Cond := .code yX6_reserveFor cX6_reserveFor 5 none :: ((wsX6_reserveFor_r1 ++ wsX6_reserveFor_r2) ++ wsX60 ++ wsX20 ++ wsX10)
def wsX6_shipOrder_r1 : List Cond := [Cond.fieldLink RX6 35 "Granary$Stock" "lots" "LGranary$Lots;", Cond.fieldLink RX6 148 "Granary$Lots" "count" "I", Cond.fieldLink RX6 42 "Granary$Stock" "orders" "LGranary$Orders;", Cond.fieldLink RX6 195 "Granary$Lots" "units" "[I", Cond.fieldLink RX6 189 "Granary$Orders" "state" "[I", Cond.fieldLink RX6 198 "Granary$Orders" "shipDay" "[I", Cond.fieldLink RX6 60 "Granary$Stock" "day" "I", Cond.fieldLink RX6 167 "Granary$Orders" "item" "[I", Cond.fieldLink RX6 201 "Granary$Orders" "units" "[I", Cond.fieldLink RX6 12 "Granary$Stock" "items" "LGranary$Items;", Cond.fieldLink RX6 53 "Granary$Stock" "account" "[I", Cond.fieldLink RX6 206 "Granary$Items" "earned" "[I", Cond.methodLink RX6 151 yX2_heldOf, Cond.instanceMethod yX2_heldOf, Cond.selects RX2 yX2_heldOf yX2_heldOf, Cond.initialized RX2, Cond.code yX2_heldOf cX2_heldOf 3 (some .int), Cond.fieldLink RX2 39 "Granary$Orders" "held" "[I", Cond.methodLink RX6 154 yX6_hold, Cond.instanceMethod yX6_hold, Cond.selects RX6 yX6_hold yX6_hold, Cond.initialized RX6, Cond.code yX6_hold cX6_hold 4 none, Cond.fieldLink RX6 141 "Granary$Orders" "held" "[I"]
def wsX6_shipOrder_r2 : List Cond := [Cond.fieldLink RX6 144 "Granary$Orders" "reserved" "[I", Cond.fieldLink RX6 147 "Granary$Lots" "reserved" "[I", Cond.methodLink RX6 202 yX0_priceOf, Cond.instanceMethod yX0_priceOf, Cond.selects RX0 yX0_priceOf yX0_priceOf, Cond.initialized RX0, Cond.code yX0_priceOf cX0_priceOf 2 (some .int), Cond.fieldLink RX0 15 "Granary$Items" "price" "[I", Cond.methodLink RX0 28 yX0_has, Cond.instanceMethod yX0_has, Cond.selects RX0 yX0_has yX0_has, Cond.code yX0_has cX0_has 2 (some .boolean), Cond.fieldLink RX0 24 "Granary$Items" "count" "I", Cond.methodLink RX6 205 yX0_has]
def wsX6_shipOrder : List Cond := .code yX6_shipOrder cX6_shipOrder 4 none :: ((wsX6_shipOrder_r1 ++ wsX6_shipOrder_r2) ++ wsX60 ++ wsX10 ++ wsX20 ++ wsX00)
def wsX7_add : List Cond := .code yX7_add cX7_add 6 none :: ([.fieldLink RX7 9 "Granary$Transports" "item" "[I", .fieldLink RX7 30 "Granary$Transports" "count" "I", .fieldLink RX7 15 "Granary$Transports" "site" "[I", .fieldLink RX7 18 "Granary$Transports" "units" "[I", .fieldLink RX7 21 "Granary$Transports" "arrival" "[I", .fieldLink RX7 24 "Granary$Transports" "last" "[I", .fieldLink RX7 27 "Granary$Transports" "moving" "[I", .methodLink RX7 34 yX7_full, .instanceMethod yX7_full, .selects RX7 yX7_full yX7_full, .initialized RX7, .code yX7_full cX7_full 1 (some .boolean)] ++ wsX70)
def wsX6_waste : List Cond := .code yX6_waste cX6_waste 3 none :: ([.fieldLink RX6 53 "Granary$Stock" "account" "[I", .fieldLink RX6 12 "Granary$Stock" "items" "LGranary$Items;", .methodLink RX6 202 yX0_priceOf, .instanceMethod yX0_priceOf, .selects RX0 yX0_priceOf yX0_priceOf, .initialized RX0, .code yX0_priceOf cX0_priceOf 2 (some .int), .fieldLink RX0 15 "Granary$Items" "price" "[I", .methodLink RX0 28 yX0_has, .instanceMethod yX0_has, .selects RX0 yX0_has yX0_has, .code yX0_has cX0_has 2 (some .boolean), .fieldLink RX0 24 "Granary$Items" "count" "I"] ++ wsX60 ++ wsX00)
end
section
theorem dX1_add_0 : decode cX1_add 0 = .ok (.aload_n 0, 1) := by decide +kernel
theorem dX1_add_1 : decode cX1_add 1 = .ok (.getfield 27, 3) := by decide +kernel
theorem dX1_add_4 : decode cX1_add 4 = .ok (.sipush 200, 3) := by decide +kernel
theorem dX1_add_7 : decode cX1_add 7 = .ok (.if_icmp .lt 5, 3) := by decide +kernel
theorem dX1_add_10 : decode cX1_add 10 = .ok (.iconst (-1), 1) := by decide +kernel
theorem dX1_add_11 : decode cX1_add 11 = .ok (.ireturn, 1) := by decide +kernel
theorem dX1_add_12 : decode cX1_add 12 = .ok (.aload_n 0, 1) := by decide +kernel
theorem dX1_add_13 : decode cX1_add 13 = .ok (.getfield 9, 3) := by decide +kernel
theorem dX1_add_16 : decode cX1_add 16 = .ok (.aload_n 0, 1) := by decide +kernel
theorem dX1_add_17 : decode cX1_add 17 = .ok (.getfield 27, 3) := by decide +kernel
theorem dX1_add_20 : decode cX1_add 20 = .ok (.iload_n 1, 1) := by decide +kernel
theorem dX1_add_21 : decode cX1_add 21 = .ok (.iastore, 1) := by decide +kernel
theorem dX1_add_22 : decode cX1_add 22 = .ok (.aload_n 0, 1) := by decide +kernel
theorem dX1_add_23 : decode cX1_add 23 = .ok (.getfield 15, 3) := by decide +kernel
theorem dX1_add_26 : decode cX1_add 26 = .ok (.aload_n 0, 1) := by decide +kernel
theorem dX1_add_27 : decode cX1_add 27 = .ok (.getfield 27, 3) := by decide +kernel
theorem dX1_add_30 : decode cX1_add 30 = .ok (.iload_n 2, 1) := by decide +kernel
theorem dX1_add_31 : decode cX1_add 31 = .ok (.iastore, 1) := by decide +kernel
theorem dX1_add_32 : decode cX1_add 32 = .ok (.aload_n 0, 1) := by decide +kernel
theorem dX1_add_33 : decode cX1_add 33 = .ok (.getfield 18, 3) := by decide +kernel
theorem dX1_add_36 : decode cX1_add 36 = .ok (.aload_n 0, 1) := by decide +kernel
theorem dX1_add_37 : decode cX1_add 37 = .ok (.getfield 27, 3) := by decide +kernel
theorem dX1_add_40 : decode cX1_add 40 = .ok (.iload_n 3, 1) := by decide +kernel
theorem dX1_add_41 : decode cX1_add 41 = .ok (.iastore, 1) := by decide +kernel
theorem dX1_add_42 : decode cX1_add 42 = .ok (.aload_n 0, 1) := by decide +kernel
theorem dX1_add_43 : decode cX1_add 43 = .ok (.getfield 21, 3) := by decide +kernel
theorem dX1_add_46 : decode cX1_add 46 = .ok (.aload_n 0, 1) := by decide +kernel
theorem dX1_add_47 : decode cX1_add 47 = .ok (.getfield 27, 3) := by decide +kernel
theorem dX1_add_50 : decode cX1_add 50 = .ok (.iconst 0, 1) := by decide +kernel
theorem dX1_add_51 : decode cX1_add 51 = .ok (.iastore, 1) := by decide +kernel
theorem dX1_add_52 : decode cX1_add 52 = .ok (.aload_n 0, 1) := by decide +kernel
theorem dX1_add_53 : decode cX1_add 53 = .ok (.getfield 24, 3) := by decide +kernel
theorem dX1_add_56 : decode cX1_add 56 = .ok (.aload_n 0, 1) := by decide +kernel
theorem dX1_add_57 : decode cX1_add 57 = .ok (.getfield 27, 3) := by decide +kernel
theorem dX1_add_60 : decode cX1_add 60 = .ok (.iload 4, 2) := by decide +kernel
theorem dX1_add_62 : decode cX1_add 62 = .ok (.iastore, 1) := by decide +kernel
theorem dX1_add_63 : decode cX1_add 63 = .ok (.aload_n 0, 1) := by decide +kernel
theorem dX1_add_64 : decode cX1_add 64 = .ok (.dup, 1) := by decide +kernel
theorem dX1_add_65 : decode cX1_add 65 = .ok (.getfield 27, 3) := by decide +kernel
theorem dX1_add_68 : decode cX1_add 68 = .ok (.iconst 1, 1) := by decide +kernel
theorem dX1_add_69 : decode cX1_add 69 = .ok (.iadd, 1) := by decide +kernel
theorem dX1_add_70 : decode cX1_add 70 = .ok (.putfield 27, 3) := by decide +kernel
theorem dX1_add_73 : decode cX1_add 73 = .ok (.aload_n 0, 1) := by decide +kernel
theorem dX1_add_74 : decode cX1_add 74 = .ok (.getfield 27, 3) := by decide +kernel
theorem dX1_add_77 : decode cX1_add 77 = .ok (.iconst 1, 1) := by decide +kernel
theorem dX1_add_78 : decode cX1_add 78 = .ok (.isub, 1) := by decide +kernel
theorem dX1_add_79 : decode cX1_add 79 = .ok (.ireturn, 1) := by decide +kernel
theorem dX6_hold_0 : decode cX6_hold 0 = .ok (.aload_n 0, 1) := by decide +kernel
theorem dX6_hold_1 : decode cX6_hold 1 = .ok (.getfield 42, 3) := by decide +kernel
theorem dX6_hold_4 : decode cX6_hold 4 = .ok (.getfield 141, 3) := by decide +kernel
theorem dX6_hold_7 : decode cX6_hold 7 = .ok (.iload_n 1, 1) := by decide +kernel
theorem dX6_hold_8 : decode cX6_hold 8 = .ok (.sipush 200, 3) := by decide +kernel
theorem dX6_hold_11 : decode cX6_hold 11 = .ok (.imul, 1) := by decide +kernel
theorem dX6_hold_12 : decode cX6_hold 12 = .ok (.iload_n 2, 1) := by decide +kernel
theorem dX6_hold_13 : decode cX6_hold 13 = .ok (.iadd, 1) := by decide +kernel
theorem dX6_hold_14 : decode cX6_hold 14 = .ok (.dup2, 1) := by decide +kernel
theorem dX6_hold_15 : decode cX6_hold 15 = .ok (.iaload, 1) := by decide +kernel
theorem dX6_hold_16 : decode cX6_hold 16 = .ok (.iload_n 3, 1) := by decide +kernel
theorem dX6_hold_17 : decode cX6_hold 17 = .ok (.iadd, 1) := by decide +kernel
theorem dX6_hold_18 : decode cX6_hold 18 = .ok (.iastore, 1) := by decide +kernel
theorem dX6_hold_19 : decode cX6_hold 19 = .ok (.aload_n 0, 1) := by decide +kernel
theorem dX6_hold_20 : decode cX6_hold 20 = .ok (.getfield 42, 3) := by decide +kernel
theorem dX6_hold_23 : decode cX6_hold 23 = .ok (.getfield 144, 3) := by decide +kernel
theorem dX6_hold_26 : decode cX6_hold 26 = .ok (.iload_n 1, 1) := by decide +kernel
theorem dX6_hold_27 : decode cX6_hold 27 = .ok (.dup2, 1) := by decide +kernel
theorem dX6_hold_28 : decode cX6_hold 28 = .ok (.iaload, 1) := by decide +kernel
theorem dX6_hold_29 : decode cX6_hold 29 = .ok (.iload_n 3, 1) := by decide +kernel
theorem dX6_hold_30 : decode cX6_hold 30 = .ok (.iadd, 1) := by decide +kernel
theorem dX6_hold_31 : decode cX6_hold 31 = .ok (.iastore, 1) := by decide +kernel
theorem dX6_hold_32 : decode cX6_hold 32 = .ok (.aload_n 0, 1) := by decide +kernel
theorem dX6_hold_33 : decode cX6_hold 33 = .ok (.getfield 35, 3) := by decide +kernel
theorem dX6_hold_36 : decode cX6_hold 36 = .ok (.getfield 147, 3) := by decide +kernel
theorem dX6_hold_39 : decode cX6_hold 39 = .ok (.iload_n 2, 1) := by decide +kernel
theorem dX6_hold_40 : decode cX6_hold 40 = .ok (.dup2, 1) := by decide +kernel
theorem dX6_hold_41 : decode cX6_hold 41 = .ok (.iaload, 1) := by decide +kernel
theorem dX6_hold_42 : decode cX6_hold 42 = .ok (.iload_n 3, 1) := by decide +kernel
theorem dX6_hold_43 : decode cX6_hold 43 = .ok (.iadd, 1) := by decide +kernel
theorem dX6_hold_44 : decode cX6_hold 44 = .ok (.iastore, 1) := by decide +kernel
theorem dX6_hold_45 : decode cX6_hold 45 = .ok (.return_, 1) := by decide +kernel
theorem dX6_release_0 : decode cX6_release 0 = .ok (.iconst 0, 1) := by decide +kernel
theorem dX6_release_1 : decode cX6_release 1 = .ok (.istore_n 2, 1) := by decide +kernel
theorem dX6_release_2 : decode cX6_release 2 = .ok (.iload_n 2, 1) := by decide +kernel
theorem dX6_release_3 : decode cX6_release 3 = .ok (.aload_n 0, 1) := by decide +kernel
theorem dX6_release_4 : decode cX6_release 4 = .ok (.getfield 35, 3) := by decide +kernel
theorem dX6_release_7 : decode cX6_release 7 = .ok (.getfield 148, 3) := by decide +kernel
theorem dX6_release_10 : decode cX6_release 10 = .ok (.if_icmp .ge 25, 3) := by decide +kernel
theorem dX6_release_13 : decode cX6_release 13 = .ok (.aload_n 0, 1) := by decide +kernel
theorem dX6_release_14 : decode cX6_release 14 = .ok (.iload_n 1, 1) := by decide +kernel
theorem dX6_release_15 : decode cX6_release 15 = .ok (.iload_n 2, 1) := by decide +kernel
theorem dX6_release_16 : decode cX6_release 16 = .ok (.aload_n 0, 1) := by decide +kernel
theorem dX6_release_17 : decode cX6_release 17 = .ok (.getfield 42, 3) := by decide +kernel
theorem dX6_release_20 : decode cX6_release 20 = .ok (.iload_n 1, 1) := by decide +kernel
theorem dX6_release_21 : decode cX6_release 21 = .ok (.iload_n 2, 1) := by decide +kernel
theorem dX6_release_22 : decode cX6_release 22 = .ok (.invokevirtual 151, 3) := by decide +kernel
theorem dX6_release_25 : decode cX6_release 25 = .ok (.ineg, 1) := by decide +kernel
theorem dX6_release_26 : decode cX6_release 26 = .ok (.invokevirtual 154, 3) := by decide +kernel
theorem dX6_release_29 : decode cX6_release 29 = .ok (.iinc 2 1, 3) := by decide +kernel
theorem dX6_release_32 : decode cX6_release 32 = .ok (.goto (-30), 3) := by decide +kernel
theorem dX6_release_35 : decode cX6_release 35 = .ok (.return_, 1) := by decide +kernel
theorem dX6_reserveFor_0 : decode cX6_reserveFor 0 = .ok (.aload_n 0, 1) := by decide +kernel
theorem dX6_reserveFor_1 : decode cX6_reserveFor 1 = .ok (.getfield 42, 3) := by decide +kernel
theorem dX6_reserveFor_4 : decode cX6_reserveFor 4 = .ok (.getfield 158, 3) := by decide +kernel
theorem dX6_reserveFor_7 : decode cX6_reserveFor 7 = .ok (.iload_n 1, 1) := by decide +kernel
theorem dX6_reserveFor_8 : decode cX6_reserveFor 8 = .ok (.iaload, 1) := by decide +kernel
theorem dX6_reserveFor_9 : decode cX6_reserveFor 9 = .ok (.aload_n 0, 1) := by decide +kernel
theorem dX6_reserveFor_10 : decode cX6_reserveFor 10 = .ok (.getfield 60, 3) := by decide +kernel
theorem dX6_reserveFor_13 : decode cX6_reserveFor 13 = .ok (.invokestatic 123, 3) := by decide +kernel
theorem dX6_reserveFor_16 : decode cX6_reserveFor 16 = .ok (.aload_n 0, 1) := by decide +kernel
theorem dX6_reserveFor_17 : decode cX6_reserveFor 17 = .ok (.getfield 42, 3) := by decide +kernel
theorem dX6_reserveFor_20 : decode cX6_reserveFor 20 = .ok (.getfield 161, 3) := by decide +kernel
theorem dX6_reserveFor_23 : decode cX6_reserveFor 23 = .ok (.iload_n 1, 1) := by decide +kernel
theorem dX6_reserveFor_24 : decode cX6_reserveFor 24 = .ok (.iaload, 1) := by decide +kernel
theorem dX6_reserveFor_25 : decode cX6_reserveFor 25 = .ok (.iadd, 1) := by decide +kernel
theorem dX6_reserveFor_26 : decode cX6_reserveFor 26 = .ok (.istore_n 2, 1) := by decide +kernel
theorem dX6_reserveFor_27 : decode cX6_reserveFor 27 = .ok (.iconst 0, 1) := by decide +kernel
theorem dX6_reserveFor_28 : decode cX6_reserveFor 28 = .ok (.istore_n 3, 1) := by decide +kernel
theorem dX6_reserveFor_29 : decode cX6_reserveFor 29 = .ok (.iload_n 3, 1) := by decide +kernel
theorem dX6_reserveFor_30 : decode cX6_reserveFor 30 = .ok (.sipush 200, 3) := by decide +kernel
theorem dX6_reserveFor_33 : decode cX6_reserveFor 33 = .ok (.if_icmp .ge 82, 3) := by decide +kernel
theorem dX6_reserveFor_36 : decode cX6_reserveFor 36 = .ok (.aload_n 0, 1) := by decide +kernel
theorem dX6_reserveFor_37 : decode cX6_reserveFor 37 = .ok (.getfield 42, 3) := by decide +kernel
theorem dX6_reserveFor_40 : decode cX6_reserveFor 40 = .ok (.iload_n 1, 1) := by decide +kernel
theorem dX6_reserveFor_41 : decode cX6_reserveFor 41 = .ok (.invokevirtual 164, 3) := by decide +kernel
theorem dX6_reserveFor_44 : decode cX6_reserveFor 44 = .ok (.ifCond .le 71, 3) := by decide +kernel
theorem dX6_reserveFor_47 : decode cX6_reserveFor 47 = .ok (.aload_n 0, 1) := by decide +kernel
theorem dX6_reserveFor_48 : decode cX6_reserveFor 48 = .ok (.getfield 35, 3) := by decide +kernel
theorem dX6_reserveFor_51 : decode cX6_reserveFor 51 = .ok (.aload_n 0, 1) := by decide +kernel
theorem dX6_reserveFor_52 : decode cX6_reserveFor 52 = .ok (.getfield 42, 3) := by decide +kernel
theorem dX6_reserveFor_55 : decode cX6_reserveFor 55 = .ok (.getfield 167, 3) := by decide +kernel
theorem dX6_reserveFor_58 : decode cX6_reserveFor 58 = .ok (.iload_n 1, 1) := by decide +kernel
theorem dX6_reserveFor_59 : decode cX6_reserveFor 59 = .ok (.iaload, 1) := by decide +kernel
theorem dX6_reserveFor_60 : decode cX6_reserveFor 60 = .ok (.aload_n 0, 1) := by decide +kernel
theorem dX6_reserveFor_61 : decode cX6_reserveFor 61 = .ok (.getfield 42, 3) := by decide +kernel
theorem dX6_reserveFor_64 : decode cX6_reserveFor 64 = .ok (.getfield 170, 3) := by decide +kernel
theorem dX6_reserveFor_67 : decode cX6_reserveFor 67 = .ok (.iload_n 1, 1) := by decide +kernel
theorem dX6_reserveFor_68 : decode cX6_reserveFor 68 = .ok (.iaload, 1) := by decide +kernel
theorem dX6_reserveFor_69 : decode cX6_reserveFor 69 = .ok (.iload_n 2, 1) := by decide +kernel
theorem dX6_reserveFor_70 : decode cX6_reserveFor 70 = .ok (.invokevirtual 173, 3) := by decide +kernel
theorem dX6_reserveFor_73 : decode cX6_reserveFor 73 = .ok (.istore 4, 2) := by decide +kernel
theorem dX6_reserveFor_75 : decode cX6_reserveFor 75 = .ok (.iload 4, 2) := by decide +kernel
theorem dX6_reserveFor_77 : decode cX6_reserveFor 77 = .ok (.iconst (-1), 1) := by decide +kernel
theorem dX6_reserveFor_78 : decode cX6_reserveFor 78 = .ok (.if_icmp .ne 4, 3) := by decide +kernel
theorem dX6_reserveFor_81 : decode cX6_reserveFor 81 = .ok (.return_, 1) := by decide +kernel
theorem dX6_reserveFor_82 : decode cX6_reserveFor 82 = .ok (.aload_n 0, 1) := by decide +kernel
theorem dX6_reserveFor_83 : decode cX6_reserveFor 83 = .ok (.iload_n 1, 1) := by decide +kernel
theorem dX6_reserveFor_84 : decode cX6_reserveFor 84 = .ok (.iload 4, 2) := by decide +kernel
theorem dX6_reserveFor_86 : decode cX6_reserveFor 86 = .ok (.aload_n 0, 1) := by decide +kernel
theorem dX6_reserveFor_87 : decode cX6_reserveFor 87 = .ok (.getfield 42, 3) := by decide +kernel
theorem dX6_reserveFor_90 : decode cX6_reserveFor 90 = .ok (.iload_n 1, 1) := by decide +kernel
theorem dX6_reserveFor_91 : decode cX6_reserveFor 91 = .ok (.invokevirtual 164, 3) := by decide +kernel
theorem dX6_reserveFor_94 : decode cX6_reserveFor 94 = .ok (.aload_n 0, 1) := by decide +kernel
theorem dX6_reserveFor_95 : decode cX6_reserveFor 95 = .ok (.getfield 35, 3) := by decide +kernel
theorem dX6_reserveFor_98 : decode cX6_reserveFor 98 = .ok (.iload 4, 2) := by decide +kernel
theorem dX6_reserveFor_100 : decode cX6_reserveFor 100 = .ok (.invokevirtual 177, 3) := by decide +kernel
theorem dX6_reserveFor_103 : decode cX6_reserveFor 103 = .ok (.invokestatic 134, 3) := by decide +kernel
theorem dX6_reserveFor_106 : decode cX6_reserveFor 106 = .ok (.invokevirtual 154, 3) := by decide +kernel
theorem dX6_reserveFor_109 : decode cX6_reserveFor 109 = .ok (.iinc 3 1, 3) := by decide +kernel
theorem dX6_reserveFor_112 : decode cX6_reserveFor 112 = .ok (.goto (-83), 3) := by decide +kernel
theorem dX6_reserveFor_115 : decode cX6_reserveFor 115 = .ok (.return_, 1) := by decide +kernel
theorem dX6_shipOrder_0 : decode cX6_shipOrder 0 = .ok (.iconst 0, 1) := by decide +kernel
theorem dX6_shipOrder_1 : decode cX6_shipOrder 1 = .ok (.istore_n 2, 1) := by decide +kernel
theorem dX6_shipOrder_2 : decode cX6_shipOrder 2 = .ok (.iload_n 2, 1) := by decide +kernel
theorem dX6_shipOrder_3 : decode cX6_shipOrder 3 = .ok (.aload_n 0, 1) := by decide +kernel
theorem dX6_shipOrder_4 : decode cX6_shipOrder 4 = .ok (.getfield 35, 3) := by decide +kernel
theorem dX6_shipOrder_7 : decode cX6_shipOrder 7 = .ok (.getfield 148, 3) := by decide +kernel
theorem dX6_shipOrder_10 : decode cX6_shipOrder 10 = .ok (.if_icmp .ge 40, 3) := by decide +kernel
theorem dX6_shipOrder_13 : decode cX6_shipOrder 13 = .ok (.aload_n 0, 1) := by decide +kernel
theorem dX6_shipOrder_14 : decode cX6_shipOrder 14 = .ok (.getfield 42, 3) := by decide +kernel
theorem dX6_shipOrder_17 : decode cX6_shipOrder 17 = .ok (.iload_n 1, 1) := by decide +kernel
theorem dX6_shipOrder_18 : decode cX6_shipOrder 18 = .ok (.iload_n 2, 1) := by decide +kernel
theorem dX6_shipOrder_19 : decode cX6_shipOrder 19 = .ok (.invokevirtual 151, 3) := by decide +kernel
theorem dX6_shipOrder_22 : decode cX6_shipOrder 22 = .ok (.istore_n 3, 1) := by decide +kernel
theorem dX6_shipOrder_23 : decode cX6_shipOrder 23 = .ok (.aload_n 0, 1) := by decide +kernel
theorem dX6_shipOrder_24 : decode cX6_shipOrder 24 = .ok (.iload_n 1, 1) := by decide +kernel
theorem dX6_shipOrder_25 : decode cX6_shipOrder 25 = .ok (.iload_n 2, 1) := by decide +kernel
theorem dX6_shipOrder_26 : decode cX6_shipOrder 26 = .ok (.iload_n 3, 1) := by decide +kernel
theorem dX6_shipOrder_27 : decode cX6_shipOrder 27 = .ok (.ineg, 1) := by decide +kernel
theorem dX6_shipOrder_28 : decode cX6_shipOrder 28 = .ok (.invokevirtual 154, 3) := by decide +kernel
theorem dX6_shipOrder_31 : decode cX6_shipOrder 31 = .ok (.aload_n 0, 1) := by decide +kernel
theorem dX6_shipOrder_32 : decode cX6_shipOrder 32 = .ok (.getfield 35, 3) := by decide +kernel
theorem dX6_shipOrder_35 : decode cX6_shipOrder 35 = .ok (.getfield 195, 3) := by decide +kernel
theorem dX6_shipOrder_38 : decode cX6_shipOrder 38 = .ok (.iload_n 2, 1) := by decide +kernel
theorem dX6_shipOrder_39 : decode cX6_shipOrder 39 = .ok (.dup2, 1) := by decide +kernel
theorem dX6_shipOrder_40 : decode cX6_shipOrder 40 = .ok (.iaload, 1) := by decide +kernel
theorem dX6_shipOrder_41 : decode cX6_shipOrder 41 = .ok (.iload_n 3, 1) := by decide +kernel
theorem dX6_shipOrder_42 : decode cX6_shipOrder 42 = .ok (.isub, 1) := by decide +kernel
theorem dX6_shipOrder_43 : decode cX6_shipOrder 43 = .ok (.iastore, 1) := by decide +kernel
theorem dX6_shipOrder_44 : decode cX6_shipOrder 44 = .ok (.iinc 2 1, 3) := by decide +kernel
theorem dX6_shipOrder_47 : decode cX6_shipOrder 47 = .ok (.goto (-45), 3) := by decide +kernel
theorem dX6_shipOrder_50 : decode cX6_shipOrder 50 = .ok (.aload_n 0, 1) := by decide +kernel
theorem dX6_shipOrder_51 : decode cX6_shipOrder 51 = .ok (.getfield 42, 3) := by decide +kernel
theorem dX6_shipOrder_54 : decode cX6_shipOrder 54 = .ok (.getfield 189, 3) := by decide +kernel
theorem dX6_shipOrder_57 : decode cX6_shipOrder 57 = .ok (.iload_n 1, 1) := by decide +kernel
theorem dX6_shipOrder_58 : decode cX6_shipOrder 58 = .ok (.iconst 1, 1) := by decide +kernel
theorem dX6_shipOrder_59 : decode cX6_shipOrder 59 = .ok (.iastore, 1) := by decide +kernel
theorem dX6_shipOrder_60 : decode cX6_shipOrder 60 = .ok (.aload_n 0, 1) := by decide +kernel
theorem dX6_shipOrder_61 : decode cX6_shipOrder 61 = .ok (.getfield 42, 3) := by decide +kernel
theorem dX6_shipOrder_64 : decode cX6_shipOrder 64 = .ok (.getfield 198, 3) := by decide +kernel
theorem dX6_shipOrder_67 : decode cX6_shipOrder 67 = .ok (.iload_n 1, 1) := by decide +kernel
theorem dX6_shipOrder_68 : decode cX6_shipOrder 68 = .ok (.aload_n 0, 1) := by decide +kernel
theorem dX6_shipOrder_69 : decode cX6_shipOrder 69 = .ok (.getfield 60, 3) := by decide +kernel
theorem dX6_shipOrder_72 : decode cX6_shipOrder 72 = .ok (.iastore, 1) := by decide +kernel
theorem dX6_shipOrder_73 : decode cX6_shipOrder 73 = .ok (.aload_n 0, 1) := by decide +kernel
theorem dX6_shipOrder_74 : decode cX6_shipOrder 74 = .ok (.getfield 42, 3) := by decide +kernel
theorem dX6_shipOrder_77 : decode cX6_shipOrder 77 = .ok (.getfield 167, 3) := by decide +kernel
theorem dX6_shipOrder_80 : decode cX6_shipOrder 80 = .ok (.iload_n 1, 1) := by decide +kernel
theorem dX6_shipOrder_81 : decode cX6_shipOrder 81 = .ok (.iaload, 1) := by decide +kernel
theorem dX6_shipOrder_82 : decode cX6_shipOrder 82 = .ok (.istore_n 2, 1) := by decide +kernel
theorem dX6_shipOrder_83 : decode cX6_shipOrder 83 = .ok (.aload_n 0, 1) := by decide +kernel
theorem dX6_shipOrder_84 : decode cX6_shipOrder 84 = .ok (.getfield 42, 3) := by decide +kernel
theorem dX6_shipOrder_87 : decode cX6_shipOrder 87 = .ok (.getfield 201, 3) := by decide +kernel
theorem dX6_shipOrder_90 : decode cX6_shipOrder 90 = .ok (.iload_n 1, 1) := by decide +kernel
theorem dX6_shipOrder_91 : decode cX6_shipOrder 91 = .ok (.iaload, 1) := by decide +kernel
theorem dX6_shipOrder_92 : decode cX6_shipOrder 92 = .ok (.iconst 2, 1) := by decide +kernel
theorem dX6_shipOrder_93 : decode cX6_shipOrder 93 = .ok (.imul, 1) := by decide +kernel
theorem dX6_shipOrder_94 : decode cX6_shipOrder 94 = .ok (.aload_n 0, 1) := by decide +kernel
theorem dX6_shipOrder_95 : decode cX6_shipOrder 95 = .ok (.getfield 12, 3) := by decide +kernel
theorem dX6_shipOrder_98 : decode cX6_shipOrder 98 = .ok (.iload_n 2, 1) := by decide +kernel
theorem dX6_shipOrder_99 : decode cX6_shipOrder 99 = .ok (.invokevirtual 202, 3) := by decide +kernel
theorem dX6_shipOrder_102 : decode cX6_shipOrder 102 = .ok (.imul, 1) := by decide +kernel
theorem dX6_shipOrder_103 : decode cX6_shipOrder 103 = .ok (.istore_n 3, 1) := by decide +kernel
theorem dX6_shipOrder_104 : decode cX6_shipOrder 104 = .ok (.aload_n 0, 1) := by decide +kernel
theorem dX6_shipOrder_105 : decode cX6_shipOrder 105 = .ok (.getfield 53, 3) := by decide +kernel
theorem dX6_shipOrder_108 : decode cX6_shipOrder 108 = .ok (.iconst 4, 1) := by decide +kernel
theorem dX6_shipOrder_109 : decode cX6_shipOrder 109 = .ok (.dup2, 1) := by decide +kernel
theorem dX6_shipOrder_110 : decode cX6_shipOrder 110 = .ok (.iaload, 1) := by decide +kernel
theorem dX6_shipOrder_111 : decode cX6_shipOrder 111 = .ok (.iload_n 3, 1) := by decide +kernel
theorem dX6_shipOrder_112 : decode cX6_shipOrder 112 = .ok (.iadd, 1) := by decide +kernel
theorem dX6_shipOrder_113 : decode cX6_shipOrder 113 = .ok (.iastore, 1) := by decide +kernel
theorem dX6_shipOrder_114 : decode cX6_shipOrder 114 = .ok (.aload_n 0, 1) := by decide +kernel
theorem dX6_shipOrder_115 : decode cX6_shipOrder 115 = .ok (.getfield 12, 3) := by decide +kernel
theorem dX6_shipOrder_118 : decode cX6_shipOrder 118 = .ok (.iload_n 2, 1) := by decide +kernel
theorem dX6_shipOrder_119 : decode cX6_shipOrder 119 = .ok (.invokevirtual 205, 3) := by decide +kernel
theorem dX6_shipOrder_122 : decode cX6_shipOrder 122 = .ok (.ifCond .eq 16, 3) := by decide +kernel
theorem dX6_shipOrder_125 : decode cX6_shipOrder 125 = .ok (.aload_n 0, 1) := by decide +kernel
theorem dX6_shipOrder_126 : decode cX6_shipOrder 126 = .ok (.getfield 12, 3) := by decide +kernel
theorem dX6_shipOrder_129 : decode cX6_shipOrder 129 = .ok (.getfield 206, 3) := by decide +kernel
theorem dX6_shipOrder_132 : decode cX6_shipOrder 132 = .ok (.iload_n 2, 1) := by decide +kernel
theorem dX6_shipOrder_133 : decode cX6_shipOrder 133 = .ok (.dup2, 1) := by decide +kernel
theorem dX6_shipOrder_134 : decode cX6_shipOrder 134 = .ok (.iaload, 1) := by decide +kernel
theorem dX6_shipOrder_135 : decode cX6_shipOrder 135 = .ok (.iload_n 3, 1) := by decide +kernel
theorem dX6_shipOrder_136 : decode cX6_shipOrder 136 = .ok (.iadd, 1) := by decide +kernel
theorem dX6_shipOrder_137 : decode cX6_shipOrder 137 = .ok (.iastore, 1) := by decide +kernel
theorem dX6_shipOrder_138 : decode cX6_shipOrder 138 = .ok (.return_, 1) := by decide +kernel
theorem dX6_waste_0 : decode cX6_waste 0 = .ok (.aload_n 0, 1) := by decide +kernel
theorem dX6_waste_1 : decode cX6_waste 1 = .ok (.getfield 53, 3) := by decide +kernel
theorem dX6_waste_4 : decode cX6_waste 4 = .ok (.iconst 1, 1) := by decide +kernel
theorem dX6_waste_5 : decode cX6_waste 5 = .ok (.dup2, 1) := by decide +kernel
theorem dX6_waste_6 : decode cX6_waste 6 = .ok (.iaload, 1) := by decide +kernel
theorem dX6_waste_7 : decode cX6_waste 7 = .ok (.iload_n 2, 1) := by decide +kernel
theorem dX6_waste_8 : decode cX6_waste 8 = .ok (.aload_n 0, 1) := by decide +kernel
theorem dX6_waste_9 : decode cX6_waste 9 = .ok (.getfield 12, 3) := by decide +kernel
theorem dX6_waste_12 : decode cX6_waste 12 = .ok (.iload_n 1, 1) := by decide +kernel
theorem dX6_waste_13 : decode cX6_waste 13 = .ok (.invokevirtual 202, 3) := by decide +kernel
theorem dX6_waste_16 : decode cX6_waste 16 = .ok (.imul, 1) := by decide +kernel
theorem dX6_waste_17 : decode cX6_waste 17 = .ok (.iadd, 1) := by decide +kernel
theorem dX6_waste_18 : decode cX6_waste 18 = .ok (.iastore, 1) := by decide +kernel
theorem dX6_waste_19 : decode cX6_waste 19 = .ok (.return_, 1) := by decide +kernel
theorem dX7_add_0 : decode cX7_add 0 = .ok (.aload_n 0, 1) := by decide +kernel
theorem dX7_add_1 : decode cX7_add 1 = .ok (.invokevirtual 34, 3) := by decide +kernel
theorem dX7_add_4 : decode cX7_add 4 = .ok (.ifCond .eq 4, 3) := by decide +kernel
theorem dX7_add_7 : decode cX7_add 7 = .ok (.return_, 1) := by decide +kernel
theorem dX7_add_8 : decode cX7_add 8 = .ok (.aload_n 0, 1) := by decide +kernel
theorem dX7_add_9 : decode cX7_add 9 = .ok (.getfield 9, 3) := by decide +kernel
theorem dX7_add_12 : decode cX7_add 12 = .ok (.aload_n 0, 1) := by decide +kernel
theorem dX7_add_13 : decode cX7_add 13 = .ok (.getfield 30, 3) := by decide +kernel
theorem dX7_add_16 : decode cX7_add 16 = .ok (.iload_n 1, 1) := by decide +kernel
theorem dX7_add_17 : decode cX7_add 17 = .ok (.iastore, 1) := by decide +kernel
theorem dX7_add_18 : decode cX7_add 18 = .ok (.aload_n 0, 1) := by decide +kernel
theorem dX7_add_19 : decode cX7_add 19 = .ok (.getfield 15, 3) := by decide +kernel
theorem dX7_add_22 : decode cX7_add 22 = .ok (.aload_n 0, 1) := by decide +kernel
theorem dX7_add_23 : decode cX7_add 23 = .ok (.getfield 30, 3) := by decide +kernel
theorem dX7_add_26 : decode cX7_add 26 = .ok (.iload_n 2, 1) := by decide +kernel
theorem dX7_add_27 : decode cX7_add 27 = .ok (.iastore, 1) := by decide +kernel
theorem dX7_add_28 : decode cX7_add 28 = .ok (.aload_n 0, 1) := by decide +kernel
theorem dX7_add_29 : decode cX7_add 29 = .ok (.getfield 18, 3) := by decide +kernel
theorem dX7_add_32 : decode cX7_add 32 = .ok (.aload_n 0, 1) := by decide +kernel
theorem dX7_add_33 : decode cX7_add 33 = .ok (.getfield 30, 3) := by decide +kernel
theorem dX7_add_36 : decode cX7_add 36 = .ok (.iload_n 3, 1) := by decide +kernel
theorem dX7_add_37 : decode cX7_add 37 = .ok (.iastore, 1) := by decide +kernel
theorem dX7_add_38 : decode cX7_add 38 = .ok (.aload_n 0, 1) := by decide +kernel
theorem dX7_add_39 : decode cX7_add 39 = .ok (.getfield 21, 3) := by decide +kernel
theorem dX7_add_42 : decode cX7_add 42 = .ok (.aload_n 0, 1) := by decide +kernel
theorem dX7_add_43 : decode cX7_add 43 = .ok (.getfield 30, 3) := by decide +kernel
theorem dX7_add_46 : decode cX7_add 46 = .ok (.iload 4, 2) := by decide +kernel
theorem dX7_add_48 : decode cX7_add 48 = .ok (.iastore, 1) := by decide +kernel
theorem dX7_add_49 : decode cX7_add 49 = .ok (.aload_n 0, 1) := by decide +kernel
theorem dX7_add_50 : decode cX7_add 50 = .ok (.getfield 24, 3) := by decide +kernel
theorem dX7_add_53 : decode cX7_add 53 = .ok (.aload_n 0, 1) := by decide +kernel
theorem dX7_add_54 : decode cX7_add 54 = .ok (.getfield 30, 3) := by decide +kernel
theorem dX7_add_57 : decode cX7_add 57 = .ok (.iload 5, 2) := by decide +kernel
theorem dX7_add_59 : decode cX7_add 59 = .ok (.iastore, 1) := by decide +kernel
theorem dX7_add_60 : decode cX7_add 60 = .ok (.aload_n 0, 1) := by decide +kernel
theorem dX7_add_61 : decode cX7_add 61 = .ok (.getfield 27, 3) := by decide +kernel
theorem dX7_add_64 : decode cX7_add 64 = .ok (.aload_n 0, 1) := by decide +kernel
theorem dX7_add_65 : decode cX7_add 65 = .ok (.getfield 30, 3) := by decide +kernel
theorem dX7_add_68 : decode cX7_add 68 = .ok (.iconst 1, 1) := by decide +kernel
theorem dX7_add_69 : decode cX7_add 69 = .ok (.iastore, 1) := by decide +kernel
theorem dX7_add_70 : decode cX7_add 70 = .ok (.aload_n 0, 1) := by decide +kernel
theorem dX7_add_71 : decode cX7_add 71 = .ok (.dup, 1) := by decide +kernel
theorem dX7_add_72 : decode cX7_add 72 = .ok (.getfield 30, 3) := by decide +kernel
theorem dX7_add_75 : decode cX7_add 75 = .ok (.iconst 1, 1) := by decide +kernel
theorem dX7_add_76 : decode cX7_add 76 = .ok (.iadd, 1) := by decide +kernel
theorem dX7_add_77 : decode cX7_add 77 = .ok (.putfield 30, 3) := by decide +kernel
theorem dX7_add_80 : decode cX7_add 80 = .ok (.return_, 1) := by decide +kernel
end
section
set_option maxRecDepth 20000 in
theorem ggX6_release_X2_heldOf : GoodIn wsX6_release wsX2_heldOf := goodIn_q _ [8] [9, 33, 34, 35, 36, 37, 38, 39, 40, 41, 42, 43] rfl (by decide +kernel) (by decide +kernel)
set_option maxRecDepth 20000 in
theorem gX6_release_X2_heldOf : GoodIn wsX6_release (wsV RX6 151 RX2 yX2_heldOf wsX2_heldOf) := goodIn_app (goodIn_of _ (by decide +kernel)) ggX6_release_X2_heldOf
set_option maxRecDepth 20000 in
theorem ggX6_release_X6_hold : GoodIn wsX6_release wsX6_hold := goodIn_q _ [14] [3, 15, 16, 1, 17, 18, 19, 20, 21, 22, 23, 24, 25, 26, 33, 34, 35, 36, 37, 38, 39, 40, 41, 42, 43, 27, 28, 29, 30, 31, 32] rfl (by decide +kernel) (by decide +kernel)
set_option maxRecDepth 20000 in
theorem gX6_release_X6_hold : GoodIn wsX6_release (wsV RX6 154 RX6 yX6_hold wsX6_hold) := goodIn_app (goodIn_of _ (by decide +kernel)) ggX6_release_X6_hold
set_option maxRecDepth 20000 in
theorem ggX6_reserveFor_X2_missing : GoodIn wsX6_reserveFor wsX2_missing := goodIn_q _ [19] [20, 21, 55, 56, 57, 58, 59, 60, 61, 62, 63, 64, 65] rfl (by decide +kernel) (by decide +kernel)
set_option maxRecDepth 20000 in
theorem gX6_reserveFor_X2_missing : GoodIn wsX6_reserveFor (wsV RX6 164 RX2 yX2_missing wsX2_missing) := goodIn_app (goodIn_of _ (by decide +kernel)) ggX6_reserveFor_X2_missing
set_option maxRecDepth 20000 in
theorem ggX6_reserveFor_X1_firstFree : GoodIn wsX6_reserveFor wsX1_firstFree := goodIn_q _ [26, 34] [27, 28, 29, 30, 31, 32, 33, 25, 35, 36, 66, 67, 68, 69, 70, 71] rfl (by decide +kernel) (by decide +kernel)
set_option maxRecDepth 20000 in
theorem gX6_reserveFor_X1_firstFree : GoodIn wsX6_reserveFor (wsV RX6 173 RX1 yX1_firstFree wsX1_firstFree) := goodIn_app (goodIn_of _ (by decide +kernel)) ggX6_reserveFor_X1_firstFree
set_option maxRecDepth 20000 in
theorem ggX6_reserveFor_X1_freeOf : GoodIn wsX6_reserveFor wsX1_freeOf := goodIn_q _ [34] [35, 36, 66, 67, 68, 69, 70, 71] rfl (by decide +kernel) (by decide +kernel)
set_option maxRecDepth 20000 in
theorem gX6_reserveFor_X1_freeOf : GoodIn wsX6_reserveFor (wsV RX6 177 RX1 yX1_freeOf wsX1_freeOf) := goodIn_app (goodIn_of _ (by decide +kernel)) ggX6_reserveFor_X1_freeOf
set_option maxRecDepth 20000 in
theorem ggX6_reserveFor_X6_hold : GoodIn wsX6_reserveFor wsX6_hold := goodIn_q _ [42] [1, 43, 44, 9, 45, 46, 47, 48, 49, 50, 51, 52, 53, 54, 55, 56, 57, 58, 59, 60, 61, 62, 63, 64, 65, 66, 67, 68, 69, 70, 71] rfl (by decide +kernel) (by decide +kernel)
set_option maxRecDepth 20000 in
theorem gX6_reserveFor_X6_hold : GoodIn wsX6_reserveFor (wsV RX6 154 RX6 yX6_hold wsX6_hold) := goodIn_app (goodIn_of _ (by decide +kernel)) ggX6_reserveFor_X6_hold
set_option maxRecDepth 20000 in
theorem ggX6_shipOrder_X2_heldOf : GoodIn wsX6_shipOrder wsX2_heldOf := goodIn_q _ [17] [18, 54, 55, 56, 57, 58, 59, 60, 61, 62, 63, 64] rfl (by decide +kernel) (by decide +kernel)
set_option maxRecDepth 20000 in
theorem gX6_shipOrder_X2_heldOf : GoodIn wsX6_shipOrder (wsV RX6 151 RX2 yX2_heldOf wsX2_heldOf) := goodIn_app (goodIn_of _ (by decide +kernel)) ggX6_shipOrder_X2_heldOf
set_option maxRecDepth 20000 in
theorem ggX6_shipOrder_X6_hold : GoodIn wsX6_shipOrder wsX6_hold := goodIn_q _ [23] [3, 24, 25, 1, 26, 39, 40, 41, 42, 43, 44, 45, 46, 47, 54, 55, 56, 57, 58, 59, 60, 61, 62, 63, 64, 48, 49, 50, 51, 52, 53] rfl (by decide +kernel) (by decide +kernel)
set_option maxRecDepth 20000 in
theorem gX6_shipOrder_X6_hold : GoodIn wsX6_shipOrder (wsV RX6 154 RX6 yX6_hold wsX6_hold) := goodIn_app (goodIn_of _ (by decide +kernel)) ggX6_shipOrder_X6_hold
set_option maxRecDepth 20000 in
theorem ggX6_shipOrder_X0_priceOf : GoodIn wsX6_shipOrder wsX0_priceOf := goodIn_q _ [31, 36] [32, 33, 34, 35, 30, 37, 65, 66, 67, 68, 69] rfl (by decide +kernel) (by decide +kernel)
set_option maxRecDepth 20000 in
theorem gX6_shipOrder_X0_priceOf : GoodIn wsX6_shipOrder (wsV RX6 202 RX0 yX0_priceOf wsX0_priceOf) := goodIn_app (goodIn_of _ (by decide +kernel)) ggX6_shipOrder_X0_priceOf
set_option maxRecDepth 20000 in
theorem ggX6_shipOrder_X0_has : GoodIn wsX6_shipOrder wsX0_has := goodIn_q _ [36] [37, 65, 66, 67, 68, 69] rfl (by decide +kernel) (by decide +kernel)
set_option maxRecDepth 20000 in
theorem gX6_shipOrder_X0_has : GoodIn wsX6_shipOrder (wsV RX6 205 RX0 yX0_has wsX0_has) := goodIn_app (goodIn_of _ (by decide +kernel)) ggX6_shipOrder_X0_has
set_option maxRecDepth 20000 in
theorem ggX6_waste_X0_priceOf : GoodIn wsX6_waste wsX0_priceOf := goodIn_q _ [7, 12] [8, 9, 10, 11, 6, 13, 23, 24, 25, 26, 27] rfl (by decide +kernel) (by decide +kernel)
set_option maxRecDepth 20000 in
theorem gX6_waste_X0_priceOf : GoodIn wsX6_waste (wsV RX6 202 RX0 yX0_priceOf wsX0_priceOf) := goodIn_app (goodIn_of _ (by decide +kernel)) ggX6_waste_X0_priceOf
set_option maxRecDepth 20000 in
theorem ggX7_add_X7_full : GoodIn wsX7_add wsX7_full := goodIn_q _ [12] [2, 13, 14, 15, 16, 17, 18, 19] rfl (by decide +kernel) (by decide +kernel)
set_option maxRecDepth 20000 in
theorem gX7_add_X7_full : GoodIn wsX7_add (wsV RX7 34 RX7 yX7_full wsX7_full) := goodIn_app (goodIn_of _ (by decide +kernel)) ggX7_add_X7_full
end
section
theorem sg_ltl {B : Int32} {N M : Nat} (hB : B = nI N) (hN : N < 2 ^ 31) (hM : M < 2 ^ 31) (c : B < nI M) : N < M := by
  rw [hB] at c
  rcases Nat.lt_or_ge N M with q | q
  · exact q
  · exact absurd c (nI_nlt q hN)
theorem sg_W.up3 {P : sg_Pic} (hw : sg_W P) (h : sg_cn P 3 < 200) : sg_W (sg_up P 0 3 ((P 0 3) + 1)) := by
  have e : (P 0 3) + 1 = nI (sg_cn P 3 + 1) := by rw [hw.e3]; exact nI_1 _
  have c : Int32.toNatClampNeg ((P 0 3) + 1) = sg_cn P 3 + 1 := by rw [e, nI_clamp (by omega)]
  refine ⟨hw.1, hw.2.1, ?_, hw.2.2.2.1, hw.2.2.2.2.1, hw.2.2.2.2.2⟩
  show ((P 0 3) + 1 = nI (Int32.toNatClampNeg ((P 0 3) + 1))) ∧ Int32.toNatClampNeg ((P 0 3) + 1) ≤ 200
  rw [c]
  exact ⟨e, h⟩
theorem sg_W.up5 {P : sg_Pic} (hw : sg_W P) (h : sg_cn P 5 < 90) : sg_W (sg_up P 0 5 ((P 0 5) + 1)) := by
  have e : (P 0 5) + 1 = nI (sg_cn P 5 + 1) := by rw [hw.e5]; exact nI_1 _
  have c : Int32.toNatClampNeg ((P 0 5) + 1) = sg_cn P 5 + 1 := by rw [e, nI_clamp (by omega)]
  refine ⟨hw.1, hw.2.1, hw.2.2.1, hw.2.2.2.1, ?_, hw.2.2.2.2.2⟩
  show ((P 0 5) + 1 = nI (Int32.toNatClampNeg ((P 0 5) + 1))) ∧ Int32.toNatClampNeg ((P 0 5) + 1) ≤ 90
  rw [c]
  exact ⟨e, h⟩
theorem sg_W.up4 {P : sg_Pic} (hw : sg_W P) (h : sg_cn P 4 < 60) : sg_W (sg_up P 0 4 ((P 0 4) + 1)) := by
  have e : (P 0 4) + 1 = nI (sg_cn P 4 + 1) := by rw [hw.e4]; exact nI_1 _
  have c : Int32.toNatClampNeg ((P 0 4) + 1) = sg_cn P 4 + 1 := by rw [e, nI_clamp (by omega)]
  refine ⟨hw.1, hw.2.1, hw.2.2.1, ?_, hw.2.2.2.2.1, hw.2.2.2.2.2⟩
  show ((P 0 4) + 1 = nI (Int32.toNatClampNeg ((P 0 4) + 1))) ∧ Int32.toNatClampNeg ((P 0 4) + 1) ≤ 60
  rw [c]
  exact ⟨e, h⟩
theorem sg_W.up1 {P : sg_Pic} (hw : sg_W P) (h : sg_cn P 1 < 6) : sg_W (sg_up P 0 1 ((P 0 1) + 1)) := by
  have e : (P 0 1) + 1 = nI (sg_cn P 1 + 1) := by rw [hw.e1]; exact nI_1 _
  have c : Int32.toNatClampNeg ((P 0 1) + 1) = sg_cn P 1 + 1 := by rw [e, nI_clamp (by omega)]
  refine ⟨?_, hw.2⟩
  show ((P 0 1) + 1 = nI (Int32.toNatClampNeg ((P 0 1) + 1))) ∧ Int32.toNatClampNeg ((P 0 1) + 1) ≤ 6
  rw [c]
  exact ⟨e, h⟩
theorem sg_W.up2 {P : sg_Pic} (hw : sg_W P) (h : sg_cn P 2 < 5) : sg_W (sg_up P 0 2 ((P 0 2) + 1)) := by
  have e : (P 0 2) + 1 = nI (sg_cn P 2 + 1) := by rw [hw.e2]; exact nI_1 _
  have c : Int32.toNatClampNeg ((P 0 2) + 1) = sg_cn P 2 + 1 := by rw [e, nI_clamp (by omega)]
  refine ⟨hw.1, ?_, hw.2.2⟩
  show ((P 0 2) + 1 = nI (Int32.toNatClampNeg ((P 0 2) + 1))) ∧ Int32.toNatClampNeg ((P 0 2) + 1) ≤ 5
  rw [c]
  exact ⟨e, h⟩
theorem sg_ne_n {P : sg_Pic} {k : Nat} {v : Int32} (r j : Nat) (h : j ≠ k) : sg_up P 0 k v 0 j = P 0 j := by
  rw [sg_up_s]
  exact if_neg h

def sg_hold (P : sg_Pic) (xo : Nat) (xl : Nat) (x : Int32) : sg_Pic := (sg_up (sg_up (sg_up P 59 ((xo * 200) + xl) ((P 59 ((xo * 200) + xl)) + x)) 53 xo ((P 53 xo) + x)) 43 xl ((P 43 xl) + x))

theorem sg_hold_K (P : sg_Pic) (xo : Nat) (xl : Nat) (x : Int32) : sg_K (sg_hold P xo xl x) P := by
  unfold sg_hold
  repeat' split
  all_goals first | exact ⟨rfl, rfl⟩
theorem sg_hold_W {P : sg_Pic} {xo : Nat} {xl : Nat} {x : Int32} (hw : sg_W P) : sg_W (sg_hold P xo xl x) := (sg_hold_K P xo xl x).W hw

set_option maxHeartbeats 4000000 in
set_option maxRecDepth 100000 in
/-- X6_hold -/
theorem c_hold (l : Launch) (D : va_G) (cI cZ cJ : ClassId) (lo sz : Nat) (a : Nat → Nat) (P : sg_Pic) (q : Nat → Int32) (xo : Nat) (xl : Nat) (x : Int32) (ho : xo < 60) (hl0 : xl < 200) : Met l yX6_hold wsX6_hold ({ frames := 0, cells := 0, slots := 0, locals := 0 }) (Pre lo D cI cZ cJ [.ref (a 0), .int (nI xo), .int (nI xl), .int x] sz (sg_St cI cZ a P q)) (va_Qv (fun _ : Unit => True) (fun _ t => va_P D vwCl (sg_St cI cZ a (sg_hold P xo xl x) q) t.heap ∧ va_D (va_A (sg_St cI cZ a P q) sz) (sg_St cI cZ a (sg_hold P xo xl x) q)) (va_A (sg_St cI cZ a P q) sz)) 0 0 (va_A (sg_St cI cZ a P q) sz) := by
  refine Met.ofW (cc := cX6_hold) (maxL := 4) (ret := none) (by decide) rfl ?_
  intro p e s m args below meth c s₁ B hml hv
  obtain ⟨rfl, hsz, hP, hD0, hC⟩ := hv
  have hx := B.exec
  have hb := B.bytes
  have hr := B.returns
  have hts := atoms_spec (ws := wsX6_hold) B.pre
  have hown : s.vm.findClass RX6 = some m.cls := findClass_of_methodNamed B.named
  have hlocks := B.notSynchronized
  subst hsz
  have hK := hC.K
  have hD := hD0.self (sz := s.heap.size)
  have hAlo0 := va_A_lo hD0 hC.1
  generalize hAe : va_A (sg_St cI cZ a P q) s.heap.size = A at hD hAlo0 ⊢
  have hA : ∀ q : Nat, s.heap.size ≤ q → A q := fun q h => by rw [← hAe]; exact Or.inr h
  have hAlo : ∀ q, A q → lo ≤ q := hAlo0
  have hS : va_S A s.heap s.heap [] := va_S.rf
  have hP : va_P D vwCl (sg_St cI cZ a P q) s.heap := hP
  have hl := lv_entry ([.ref (a 0), .int (nI xo), .int (nI xl), .int x]) (n := 4) (Nat.le_of_ble_eq_true rfl)
  rw [lg_entry_eq]
  generalize (lg_sl ([.ref (a 0), .int (nI xo), .int (nI xl), .int x]) ++ List.replicate (4 - (lg_sl ([.ref (a 0), .int (nI xo), .int (nI xl), .int x])).length) Slot.unset).toArray = ls at hl ⊢
  have hl : lv_has ls 4 [(0, .ref (a 0)), (1, .int (nI xo)), (2, .int (nI xl)), (3, .int x)] := hl
  have in1 : ∀ w ∈ u_ws RX1 TX1 6, w ∈ wsX6_hold := by decide +kernel
  have in2 : ∀ w ∈ u_ws RX2 TX2 11, w ∈ wsX6_hold := by decide +kernel
  have in6 : ∀ w ∈ u_ws RX6 TX6 9, w ∈ wsX6_hold := by decide +kernel
  refine lv_aload_n hx hb dX6_hold_0 rfl (lv_at hl 0 rfl) ?_
  refine va_get (D := D) (ci := 6) (v := .ref (a 5)) (C := RX6) (T := TX6) (N := 9) hx hb hts in6 hown hK hP 0 rfl rfl 5 (by decide) (hts (.fieldLink RX6 42 "Granary$Stock" "orders" "LGranary$Orders;") (by decide +kernel)) (fun _ h9 => h9) rfl dX6_hold_1 ?_
  refine va_get (D := D) (ci := 2) (v := .ref (a 59)) (C := RX2) (T := TX2) (N := 11) hx hb hts in2 hown hK hP 5 rfl rfl 10 (by decide) (hts (.fieldLink RX6 141 "Granary$Orders" "held" "[I") (by decide +kernel)) (fun _ h9 => h9) rfl dX6_hold_4 ?_
  refine lv_iload_n hx hb dX6_hold_7 rfl (lv_at hl 1 rfl) ?_
  refine lv_sipush (v := 200) hx hb dX6_hold_8 (by decide) ?_
  refine lv_imul hx hb dX6_hold_11 ?_
  refine lv_toi (y := nI (xo * 200)) (sg_mulN xo 200) ?_
  refine lv_iload_n hx hb dX6_hold_12 rfl (lv_at hl 2 rfl) ?_
  refine lv_iadd hx hb dX6_hold_13 ?_
  refine lv_toi (y := nI ((xo * 200) + xl)) (nI_add (xo * 200) xl) ?_
  refine lv_dup2_11 hx hb dX6_hold_14 rfl rfl ?_
  refine sg_iald hx hb hK hP 32 0 rfl rfl (j := (xo * 200) + xl) rfl (by omega) (Nat.le_of_ble_eq_true rfl) dX6_hold_15 ?_
  refine lv_toi (y := P 59 ((xo * 200) + xl)) rfl ?_
  refine lv_iload_n hx hb dX6_hold_16 rfl (lv_at hl 3 rfl) ?_
  refine lv_iadd hx hb dX6_hold_17 ?_
  refine sg_iast hx hb hK hP hD hS 32 0 rfl rfl (j := (xo * 200) + xl) rfl (by omega) (Nat.le_of_ble_eq_true rfl) dX6_hold_18 (fun H locs hP hD hS => ?_)
  replace hP : va_P D vwCl (sg_St cI cZ a (sg_up P 59 ((xo * 200) + xl) ((P 59 ((xo * 200) + xl)) + x)) q) H := hP
  replace hD : va_D A (sg_St cI cZ a (sg_up P 59 ((xo * 200) + xl) ((P 59 ((xo * 200) + xl)) + x)) q) := hD
  refine lv_aload_n hx hb dX6_hold_19 rfl (lv_at hl 0 rfl) ?_
  refine va_get (D := D) (ci := 6) (v := .ref (a 5)) (C := RX6) (T := TX6) (N := 9) hx hb hts in6 hown hK hP 0 rfl rfl 5 (by decide) (hts (.fieldLink RX6 42 "Granary$Stock" "orders" "LGranary$Orders;") (by decide +kernel)) (fun _ h9 => h9) rfl dX6_hold_20 ?_
  refine va_get (D := D) (ci := 2) (v := .ref (a 53)) (C := RX2) (T := TX2) (N := 11) hx hb hts in2 hown hK hP 5 rfl rfl 4 (by decide) (hts (.fieldLink RX6 144 "Granary$Orders" "reserved" "[I") (by decide +kernel)) (fun _ h9 => h9) rfl dX6_hold_23 ?_
  refine lv_iload_n hx hb dX6_hold_26 rfl (lv_at hl 1 rfl) ?_
  refine lv_dup2_11 hx hb dX6_hold_27 rfl rfl ?_
  refine sg_iald hx hb hK hP 26 0 rfl rfl (j := xo) rfl (by omega) (Nat.le_of_ble_eq_true rfl) dX6_hold_28 ?_
  refine lv_toi (y := P 53 xo) rfl ?_
  refine lv_iload_n hx hb dX6_hold_29 rfl (lv_at hl 3 rfl) ?_
  refine lv_iadd hx hb dX6_hold_30 ?_
  refine sg_iast hx hb hK hP hD hS 26 0 rfl rfl (j := xo) rfl (by omega) (Nat.le_of_ble_eq_true rfl) dX6_hold_31 (fun H locs hP hD hS => ?_)
  replace hP : va_P D vwCl (sg_St cI cZ a (sg_up (sg_up P 59 ((xo * 200) + xl) ((P 59 ((xo * 200) + xl)) + x)) 53 xo ((P 53 xo) + x)) q) H := hP
  replace hD : va_D A (sg_St cI cZ a (sg_up (sg_up P 59 ((xo * 200) + xl) ((P 59 ((xo * 200) + xl)) + x)) 53 xo ((P 53 xo) + x)) q) := hD
  refine lv_aload_n hx hb dX6_hold_32 rfl (lv_at hl 0 rfl) ?_
  refine va_get (D := D) (ci := 6) (v := .ref (a 4)) (C := RX6) (T := TX6) (N := 9) hx hb hts in6 hown hK hP 0 rfl rfl 4 (by decide) (hts (.fieldLink RX6 35 "Granary$Stock" "lots" "LGranary$Lots;") (by decide +kernel)) (fun _ h9 => h9) rfl dX6_hold_33 ?_
  refine va_get (D := D) (ci := 1) (v := .ref (a 43)) (C := RX1) (T := TX1) (N := 6) hx hb hts in1 hown hK hP 4 rfl rfl 4 (by decide) (hts (.fieldLink RX6 147 "Granary$Lots" "reserved" "[I") (by decide +kernel)) (fun _ h9 => h9) rfl dX6_hold_36 ?_
  refine lv_iload_n hx hb dX6_hold_39 rfl (lv_at hl 2 rfl) ?_
  refine lv_dup2_11 hx hb dX6_hold_40 rfl rfl ?_
  refine sg_iald hx hb hK hP 21 0 rfl rfl (j := xl) rfl (by omega) (Nat.le_of_ble_eq_true rfl) dX6_hold_41 ?_
  refine lv_toi (y := P 43 xl) rfl ?_
  refine lv_iload_n hx hb dX6_hold_42 rfl (lv_at hl 3 rfl) ?_
  refine lv_iadd hx hb dX6_hold_43 ?_
  refine sg_iast hx hb hK hP hD hS 21 0 rfl rfl (j := xl) rfl (by omega) (Nat.le_of_ble_eq_true rfl) dX6_hold_44 (fun H locs hP hD hS => ?_)
  replace hP : va_P D vwCl (sg_St cI cZ a (sg_up (sg_up (sg_up P 59 ((xo * 200) + xl) ((P 59 ((xo * 200) + xl)) + x)) 53 xo ((P 53 xo) + x)) 43 xl ((P 43 xl) + x)) q) H := hP
  replace hD : va_D A (sg_St cI cZ a (sg_up (sg_up (sg_up P 59 ((xo * 200) + xl) ((P 59 ((xo * 200) + xl)) + x)) 53 xo ((P 53 xo) + x)) 43 xl ((P 43 xl) + x)) q) := hD
  refine W.widen (k := 0) (n := 0) (by omega) (by omega) ?_
  have hP9 : va_P D vwCl (sg_St cI cZ a (sg_hold P xo xl x) q) H := by exact hP
  have hD9 : va_D A (sg_St cI cZ a (sg_hold P xo xl x) q) := by exact hD
  exact W.vret hx hb hr (fun t ht hW => ⟨⟨(), rfl, trivial, by rw [ht]; exact hP9, hD9⟩, hS.F ht⟩) hS.2.2 dX6_hold_45

def sg_release_2 (P : sg_Pic) (xo : Nat) : Nat → sg_Pic
  | 0 => P
  | j2 + 1 => (sg_hold (sg_release_2 P xo j2) xo j2 (-(sg_heldOf (sg_release_2 P xo j2) xo j2)))
theorem sg_release_2_K (P : sg_Pic) (xo : Nat) : ∀ j : Nat, sg_K (sg_release_2 P xo j) P
  | 0 => by exact ⟨rfl, rfl⟩
  | j + 1 => by
    have h := sg_release_2_K P xo j
    rw [sg_release_2]
    repeat' split
    all_goals first | exact h | (refine sg_K.trans ?_ h; exact ⟨rfl, rfl⟩)

def sg_release (P : sg_Pic) (xo : Nat) : sg_Pic := (sg_release_2 P xo (sg_cn P 3))

theorem sg_release_K (P : sg_Pic) (xo : Nat) : sg_K (sg_release P xo) P := by
  unfold sg_release
  repeat' split
  all_goals first | exact ⟨rfl, rfl⟩ | exact sg_release_2_K _ _ _
theorem sg_release_W {P : sg_Pic} {xo : Nat} (hw : sg_W P) : sg_W (sg_release P xo) := (sg_release_K P xo).W hw

set_option maxHeartbeats 4000000 in
set_option maxRecDepth 100000 in
/-- X6_release -/
theorem c_release (l : Launch) (D : va_G) (cI cZ cJ : ClassId) (lo sz : Nat) (a : Nat → Nat) (P : sg_Pic) (q : Nat → Int32) (xo : Nat) (hw : sg_W P) (ho : xo < 60) : Met l yX6_release wsX6_release ({ frames := 1, cells := 0, slots := 0, locals := 23 }) (Pre lo D cI cZ cJ [.ref (a 0), .int (nI xo)] sz (sg_St cI cZ a P q)) (va_Qv (fun _ : Unit => True) (fun _ t => va_P D vwCl (sg_St cI cZ a (sg_release P xo) q) t.heap ∧ va_D (va_A (sg_St cI cZ a P q) sz) (sg_St cI cZ a (sg_release P xo) q)) (va_A (sg_St cI cZ a P q) sz)) 0 0 (va_A (sg_St cI cZ a P q) sz) := by
  refine Met.ofW (cc := cX6_release) (maxL := 3) (ret := none) (by decide) rfl ?_
  intro p e s m args below meth c s₁ B hml hv
  obtain ⟨rfl, hsz, hP, hD0, hC⟩ := hv
  have hx := B.exec
  have hb := B.bytes
  have hr := B.returns
  have hts := atoms_spec (ws := wsX6_release) B.pre
  have hown : s.vm.findClass RX6 = some m.cls := findClass_of_methodNamed B.named
  have hlocks := B.notSynchronized
  subst hsz
  have hn1 : sg_cn P 1 ≤ 6 := hw.n1
  have hn2 : sg_cn P 2 ≤ 5 := hw.n2
  have hn3 : sg_cn P 3 ≤ 200 := hw.n3
  have hn4 : sg_cn P 4 ≤ 60 := hw.n4
  have hn5 : sg_cn P 5 ≤ 90 := hw.n5
  have hK := hC.K
  have hD := hD0.self (sz := s.heap.size)
  have hAlo0 := va_A_lo hD0 hC.1
  generalize hAe : va_A (sg_St cI cZ a P q) s.heap.size = A at hD hAlo0 ⊢
  have hA : ∀ q : Nat, s.heap.size ≤ q → A q := fun q h => by rw [← hAe]; exact Or.inr h
  have hAlo : ∀ q, A q → lo ≤ q := hAlo0
  have hS : va_S A s.heap s.heap [] := va_S.rf
  have hP : va_P D vwCl (sg_St cI cZ a P q) s.heap := hP
  have hl := lv_entry ([.ref (a 0), .int (nI xo)]) (n := 3) (Nat.le_of_ble_eq_true rfl)
  rw [lg_entry_eq]
  generalize (lg_sl ([.ref (a 0), .int (nI xo)]) ++ List.replicate (3 - (lg_sl ([.ref (a 0), .int (nI xo)])).length) Slot.unset).toArray = ls at hl ⊢
  have hl : lv_has ls 3 [(0, .ref (a 0)), (1, .int (nI xo))] := hl
  have in1 : ∀ w ∈ u_ws RX1 TX1 6, w ∈ wsX6_release := by decide +kernel
  have in6 : ∀ w ∈ u_ws RX6 TX6 9, w ∈ wsX6_release := by decide +kernel
  refine lv_iconst (v := 0) hx hb dX6_release_0 (by decide) ?_
  refine lv_istore_n (lv' := [(2, .int 0), (0, .ref (a 0)), (1, .int (nI xo))]) hx hb dX6_release_1 rfl hl (by decide) rfl (fun ls hl => ?_)
  obtain ⟨H, hH9⟩ : ∃ z : Heap, z = s.heap := ⟨_, rfl⟩
  replace hS : va_S A s.heap H [] := by rw [hH9]; exact va_S.rf
  replace hP : va_P D vwCl (sg_St cI cZ a P q) H := by rw [hH9]; exact hP
  rw [← hH9]
  clear hH9
  generalize ([] : List Loc) = locs at hS ⊢
  obtain ⟨j2, h0j2⟩ : ∃ j : Nat, j = 0 := ⟨_, rfl⟩
  obtain ⟨P2, hP2⟩ : ∃ z9 : sg_Pic, z9 = sg_release_2 P xo j2 := ⟨_, rfl⟩
  replace hl : lv_has ls 3 [(2, .int (nI j2)), (0, .ref (a 0)), (1, .int (nI xo))] := by rw [h0j2]; exact hl
  replace hP : va_P D vwCl (sg_St cI cZ a P2 q) H := by rw [hP2, h0j2]; exact hP
  replace hD : va_D A (sg_St cI cZ a P2 q) := by rw [hP2, h0j2]; exact hD
  have hjj2 : j2 ≤ sg_cn P 3 := by omega
  clear h0j2
  obtain ⟨n2, hn2⟩ : ∃ n : Nat, sg_cn P 3 < j2 + n := ⟨sg_cn P 3 + 1, by omega⟩
  revert hP
  revert hD
  revert hS
  revert hl
  revert hn2
  revert hjj2
  revert hP2
  revert ls
  revert locs
  revert H
  revert P2
  revert j2
  induction n2 with
  | zero =>
    intro j2 P2 H locs ls hP2 hjj2 hn2 hl hS hD hP
    exact absurd hn2 (by omega)
  | succ n2 ih2 =>
    intro j2 P2 H locs ls hP2 hjj2 hn2 hl hS hD hP
    refine lv_iload_n hx hb dX6_release_2 rfl (lv_at hl 0 rfl) ?_
    refine lv_aload_n hx hb dX6_release_3 rfl (lv_at hl 1 rfl) ?_
    refine va_get (D := D) (ci := 6) (v := .ref (a 4)) (C := RX6) (T := TX6) (N := 9) hx hb hts in6 hown hK hP 0 rfl rfl 4 (by decide) (hts (.fieldLink RX6 35 "Granary$Stock" "lots" "LGranary$Lots;") (by decide +kernel)) (fun _ h9 => h9) rfl dX6_release_4 ?_
    refine va_get (D := D) (ci := 1) (v := .int (P2 0 3)) (C := RX1) (T := TX1) (N := 6) hx hb hts in1 hown hK hP 4 rfl rfl 0 (by decide) (hts (.fieldLink RX6 148 "Granary$Lots" "count" "I") (by decide +kernel)) (fun _ h9 => h9) rfl dX6_release_7 ?_
    have hkP2 : sg_K P2 P := by rw [hP2]; exact sg_release_2_K P xo j2
    have hB2 : ((P2 0 3) : Int32) = nI (sg_cn P 3) := ((hkP2.e 3).trans hw.e3)
    refine lv_icmp_ge (tgt := 35) hx hb dX6_release_10 (by decide) (fun c_1 => ?_) (fun c_1 => ?_)
    · have hE2 : j2 = sg_cn P 3 := sg_eq hB2 c_1 hjj2 (by omega)
      clear ih2 hn2
      subst hE2
      subst hP2
      refine W.widen (k := 0) (n := 0) (by omega) (by omega) ?_
      have hP9 : va_P D vwCl (sg_St cI cZ a (sg_release P xo) q) H := by exact hP
      have hD9 : va_D A (sg_St cI cZ a (sg_release P xo) q) := by exact hD
      exact W.vret hx hb hr (fun t ht hW => ⟨⟨(), rfl, trivial, by rw [ht]; exact hP9, hD9⟩, hS.F ht⟩) hS.2.2 dX6_release_35
    · have hL2 : j2 < sg_cn P 3 := sg_lt hB2 c_1 (by omega)
      refine lv_aload_n hx hb dX6_release_13 rfl (lv_at hl 1 rfl) ?_
      refine lv_iload_n hx hb dX6_release_14 rfl (lv_at hl 2 rfl) ?_
      refine lv_iload_n hx hb dX6_release_15 rfl (lv_at hl 0 rfl) ?_
      refine lv_aload_n hx hb dX6_release_16 rfl (lv_at hl 1 rfl) ?_
      refine va_get (D := D) (ci := 6) (v := .ref (a 5)) (C := RX6) (T := TX6) (N := 9) hx hb hts in6 hown hK hP 0 rfl rfl 5 (by decide) (hts (.fieldLink RX6 42 "Granary$Stock" "orders" "LGranary$Orders;") (by decide +kernel)) (fun _ h9 => h9) rfl dX6_release_17 ?_
      refine lv_iload_n hx hb dX6_release_20 rfl (lv_at hl 2 rfl) ?_
      refine lv_iload_n hx hb dX6_release_21 rfl (lv_at hl 0 rfl) ?_
      have hPc := hP.sub (ws' := [(a 5, .inr (2, [.int (P2 0 4), .ref (a 50), .ref (a 51), .ref (a 52), .ref (a 53), .ref (a 54), .ref (a 55), .ref (a 56), .ref (a 57), .ref (a 58), .ref (a 59)])), (a 59, .inl (cI, 12000, .inl (P2 59)))]) [5, 32] rfl
      have hDc := hD.sub (ws' := [(a 5, .inr (2, [.int (P2 0 4), .ref (a 50), .ref (a 51), .ref (a 52), .ref (a 53), .ref (a 54), .ref (a 55), .ref (a 56), .ref (a 57), .ref (a 58), .ref (a 59)])), (a 59, .inl (cI, 12000, .inl (P2 59)))]) [5, 32] (by decide) rfl
      refine vp_callSi (W.runV (As := [.int (nI xo), .int (nI j2)]) (rest := [.int (nI j2), .int (nI xo), .ref (a 0)]) ⟨hx, hb, hml, hown, hts⟩ (c_heldOf l D cI cZ cJ lo H.size a P2 xo j2 (by omega) (by omega)) (cwV 2 hts gX6_release_X2_heldOf rfl rfl rfl (by decide +kernel) ⟨(Nat.le_of_ble_eq_true rfl), (Nat.le_of_ble_eq_true rfl)⟩) ⟨Pre.blind, va_recv hK hP (ci := 2) (q0 := 5) rfl rfl, Pre.mk hPc (hDc.weaken (fun _ _ _ h => hAlo _ h)) hC hS hAlo⟩ rfl rfl hl.1 rfl (lv_room (Nat.le_of_ble_eq_true rfl)) dX6_release_22 ⟨(Nat.le_of_ble_eq_true rfl), (Nat.le_of_ble_eq_true rfl)⟩) (fun r_2 e_3 => ?_)
      clear hPc hDc
      have e_3 : sg_heldOf P2 xo j2 = r_2 := Eq.symm e_3
      subst e_3
      refine lv_ineg hx hb dX6_release_25 ?_
      have hPc : va_P D vwCl (sg_St cI cZ a P2 q) H := hP
      have hDc : va_D A (sg_St cI cZ a P2 q) := hD
      have hFc := va_free (wc := (sg_St cI cZ a P2 q)) hD hS hA [0, 1, 2, 3, 4, 5, 6, 7, 8, 9, 10, 11, 12, 13, 14, 15, 16, 17, 18, 19, 20, 21, 22, 23, 24, 25, 26, 27, 28, 29, 30, 31, 32, 33, 34, 35, 36, 37, 38, 39, 40] rfl
      refine va_callv (va_runV (As := [.int (nI xo), .int (nI j2), .int (-(sg_heldOf P2 xo j2))]) (rest := []) ⟨hx, hb, hml, hown, hts⟩ (c_hold l D cI cZ cJ lo H.size a P2 q xo j2 (-(sg_heldOf P2 xo j2)) (by omega) (by omega)) (cwV 3 hts gX6_release_X6_hold rfl rfl rfl (by decide +kernel) ⟨(Nat.le_of_ble_eq_true rfl), (Nat.le_of_ble_eq_true rfl)⟩) ⟨Pre.blind, va_recv hK hP (ci := 6) (q0 := 0) rfl rfl, Pre.mk hPc (hDc.weaken (fun _ _ _ h => hAlo _ h)) hC hS hAlo⟩ rfl rfl hl.1 rfl (lv_room (Nat.le_of_ble_eq_true rfl)) dX6_release_26 ⟨(Nat.le_of_ble_eq_true rfl), (Nat.le_of_ble_eq_true rfl)⟩) hS (fun q _ h => hFc q h) hFc (fun u t H1 locs1 ht hvm e_4 hB hz1 hk1 hS1 => ?_)
      have hS := hS1
      obtain ⟨hP1, hD1⟩ := hB
      rw [ht] at hP1
      obtain ⟨hP, hD⟩ := va_join (wr := []) (w1 := (sg_St cI cZ a (sg_hold P2 xo j2 (-(sg_heldOf P2 xo j2))) q)) hP hD [0, 1, 2, 3, 4, 5, 6, 7, 8, 9, 10, 11, 12, 13, 14, 15, 16, 17, 18, 19, 20, 21, 22, 23, 24, 25, 26, 27, 28, 29, 30, 31, 32, 33, 34, 35, 36, 37, 38, 39, 40] [] rfl rfl (by decide) (by decide) hk1 hFc hP1 hD1
      have e_4 : True := e_4
      clear hFc hPc hDc ht hvm hz1 hk1 hS1 hP1 hD1
      generalize H1 = H at hP hS ⊢
      replace hP : va_P D vwCl (sg_St cI cZ a (sg_hold P2 xo j2 (-(sg_heldOf P2 xo j2))) q) H := hP
      replace hD : va_D A (sg_St cI cZ a (sg_hold P2 xo j2 (-(sg_heldOf P2 xo j2))) q) := hD
      refine lv_iinc (v := nI (j2 + 1)) (lv' := [(2, .int (nI (j2 + 1))), (0, .ref (a 0)), (1, .int (nI xo))]) hx hb dX6_release_29 hl (k := 0) rfl (nI_1 j2) (by decide) rfl (fun ls hl => ?_)
      refine lv_goto (tgt := 2) hx hb dX6_release_32 (by decide) ?_
      have hl8 := hl; have hS8 := hS; have hD8 := hD; have hP8 := hP
      subst hP2
      exact ih2 (j2 + 1) (sg_hold (sg_release_2 P xo j2) xo j2 (-(sg_heldOf (sg_release_2 P xo j2) xo j2))) _ _ _ rfl (by omega) (by omega) (lv_sub hl8 [0, 1, 2] rfl) hS8 hD8 hP8

def sg_waste (P : sg_Pic) (x : Int32) (y : Int32) : sg_Pic := (sg_up P 70 1 ((P 70 1) + (y * (sg_priceOf P x))))

theorem sg_waste_K (P : sg_Pic) (x : Int32) (y : Int32) : sg_K (sg_waste P x y) P := by
  unfold sg_waste
  repeat' split
  all_goals first | exact ⟨rfl, rfl⟩
theorem sg_waste_W {P : sg_Pic} {x : Int32} {y : Int32} (hw : sg_W P) : sg_W (sg_waste P x y) := (sg_waste_K P x y).W hw

set_option maxHeartbeats 4000000 in
set_option maxRecDepth 100000 in
/-- X6_waste -/
theorem c_waste (l : Launch) (D : va_G) (cI cZ cJ : ClassId) (lo sz : Nat) (a : Nat → Nat) (P : sg_Pic) (q : Nat → Int32) (x : Int32) (y : Int32) (hw : sg_W P) : Met l yX6_waste wsX6_waste ({ frames := 2, cells := 0, slots := 0, locals := 42 }) (Pre lo D cI cZ cJ [.ref (a 0), .int x, .int y] sz (sg_St cI cZ a P q)) (va_Qv (fun _ : Unit => True) (fun _ t => va_P D vwCl (sg_St cI cZ a (sg_waste P x y) q) t.heap ∧ va_D (va_A (sg_St cI cZ a P q) sz) (sg_St cI cZ a (sg_waste P x y) q)) (va_A (sg_St cI cZ a P q) sz)) 0 0 (va_A (sg_St cI cZ a P q) sz) := by
  refine Met.ofW (cc := cX6_waste) (maxL := 3) (ret := none) (by decide) rfl ?_
  intro p e s m args below meth c s₁ B hml hv
  obtain ⟨rfl, hsz, hP, hD0, hC⟩ := hv
  have hx := B.exec
  have hb := B.bytes
  have hr := B.returns
  have hts := atoms_spec (ws := wsX6_waste) B.pre
  have hown : s.vm.findClass RX6 = some m.cls := findClass_of_methodNamed B.named
  have hlocks := B.notSynchronized
  subst hsz
  have hn1 : sg_cn P 1 ≤ 6 := hw.n1
  have hn2 : sg_cn P 2 ≤ 5 := hw.n2
  have hn3 : sg_cn P 3 ≤ 200 := hw.n3
  have hn4 : sg_cn P 4 ≤ 60 := hw.n4
  have hn5 : sg_cn P 5 ≤ 90 := hw.n5
  have hK := hC.K
  have hD := hD0.self (sz := s.heap.size)
  have hAlo0 := va_A_lo hD0 hC.1
  generalize hAe : va_A (sg_St cI cZ a P q) s.heap.size = A at hD hAlo0 ⊢
  have hA : ∀ q : Nat, s.heap.size ≤ q → A q := fun q h => by rw [← hAe]; exact Or.inr h
  have hAlo : ∀ q, A q → lo ≤ q := hAlo0
  have hS : va_S A s.heap s.heap [] := va_S.rf
  have hP : va_P D vwCl (sg_St cI cZ a P q) s.heap := hP
  have hl := lv_entry ([.ref (a 0), .int x, .int y]) (n := 3) (Nat.le_of_ble_eq_true rfl)
  rw [lg_entry_eq]
  generalize (lg_sl ([.ref (a 0), .int x, .int y]) ++ List.replicate (3 - (lg_sl ([.ref (a 0), .int x, .int y])).length) Slot.unset).toArray = ls at hl ⊢
  have hl : lv_has ls 3 [(0, .ref (a 0)), (1, .int x), (2, .int y)] := hl
  have in6 : ∀ w ∈ u_ws RX6 TX6 9, w ∈ wsX6_waste := by decide +kernel
  refine lv_aload_n hx hb dX6_waste_0 rfl (lv_at hl 0 rfl) ?_
  refine va_get (D := D) (ci := 6) (v := .ref (a 70)) (C := RX6) (T := TX6) (N := 9) hx hb hts in6 hown hK hP 0 rfl rfl 7 (by decide) (hts (.fieldLink RX6 53 "Granary$Stock" "account" "[I") (by decide +kernel)) (fun _ h9 => h9) rfl dX6_waste_1 ?_
  refine lv_iconst (v := 1) hx hb dX6_waste_4 (by decide) ?_
  refine lv_dup2_11 hx hb dX6_waste_5 rfl rfl ?_
  refine sg_iald hx hb hK hP 39 0 rfl rfl (j := 1) (by decide) (Nat.le_of_ble_eq_true rfl) (Nat.le_of_ble_eq_true rfl) dX6_waste_6 ?_
  refine lv_toi (y := P 70 1) rfl ?_
  refine lv_iload_n hx hb dX6_waste_7 rfl (lv_at hl 2 rfl) ?_
  refine lv_aload_n hx hb dX6_waste_8 rfl (lv_at hl 0 rfl) ?_
  refine va_get (D := D) (ci := 6) (v := .ref (a 1)) (C := RX6) (T := TX6) (N := 9) hx hb hts in6 hown hK hP 0 rfl rfl 1 (by decide) (hts (.fieldLink RX6 12 "Granary$Stock" "items" "LGranary$Items;") (by decide +kernel)) (fun _ h9 => h9) rfl dX6_waste_9 ?_
  refine lv_iload_n hx hb dX6_waste_12 rfl (lv_at hl 1 rfl) ?_
  have hPc := hP.sub (ws' := [(a 1, .inr (0, [.int (P 0 1), .ref (a 10), .ref (a 11), .ref (a 12), .ref (a 13)])), (a 11, .inl (cI, 6, .inl (P 11)))]) [1, 8] rfl
  have hDc := hD.sub (ws' := [(a 1, .inr (0, [.int (P 0 1), .ref (a 10), .ref (a 11), .ref (a 12), .ref (a 13)])), (a 11, .inl (cI, 6, .inl (P 11)))]) [1, 8] (by decide) rfl
  refine vp_callSi (W.runV (As := [.int x]) (rest := [.int y, .int (P 70 1), .int 1, .ref (a 70)]) ⟨hx, hb, hml, hown, hts⟩ (c_priceOf l D cI cZ cJ lo s.heap.size a P x hw) (cwV 1 hts gX6_waste_X0_priceOf rfl rfl rfl (by decide +kernel) ⟨(Nat.le_of_ble_eq_true rfl), (Nat.le_of_ble_eq_true rfl)⟩) ⟨Pre.blind, va_recv hK hP (ci := 0) (q0 := 1) rfl rfl, Pre.mk hPc (hDc.weaken (fun _ _ _ h => hAlo _ h)) hC hS hAlo⟩ rfl rfl hl.1 rfl (lv_room (Nat.le_of_ble_eq_true rfl)) dX6_waste_13 ⟨(Nat.le_of_ble_eq_true rfl), (Nat.le_of_ble_eq_true rfl)⟩) (fun r_1 e_2 => ?_)
  clear hPc hDc
  have e_2 : sg_priceOf P x = r_1 := Eq.symm e_2
  subst e_2
  refine lv_imul hx hb dX6_waste_16 ?_
  refine lv_iadd hx hb dX6_waste_17 ?_
  refine sg_iast hx hb hK hP hD hS 39 0 rfl rfl (j := 1) (by decide) (Nat.le_of_ble_eq_true rfl) (Nat.le_of_ble_eq_true rfl) dX6_waste_18 (fun H locs hP hD hS => ?_)
  replace hP : va_P D vwCl (sg_St cI cZ a (sg_up P 70 1 ((P 70 1) + (y * (sg_priceOf P x)))) q) H := hP
  replace hD : va_D A (sg_St cI cZ a (sg_up P 70 1 ((P 70 1) + (y * (sg_priceOf P x)))) q) := hD
  refine W.widen (k := 0) (n := 0) (by omega) (by omega) ?_
  have hP9 : va_P D vwCl (sg_St cI cZ a (sg_waste P x y) q) H := by exact hP
  have hD9 : va_D A (sg_St cI cZ a (sg_waste P x y) q) := by exact hD
  exact W.vret hx hb hr (fun t ht hW => ⟨⟨(), rfl, trivial, by rw [ht]; exact hP9, hD9⟩, hS.F ht⟩) hS.2.2 dX6_waste_19

def sg_reserveFor_29 (P : sg_Pic) (xo : Nat) : Nat → sg_Pic → sg_Pic
  | 0, P29 => P29
  | n29 + 1, P29 => (if (sg_missing P29 xo) ≤ 0 then P29 else (if (sg_firstFree P29 (P29 50 xo) (P29 51 xo) ((if (P 54 xo) < (P 0 0) then (P 0 0) else (P 54 xo)) + (P 56 xo))) = (-1) then P29 else (sg_reserveFor_29 P xo n29 (sg_hold P29 xo (Int32.toNatClampNeg (sg_firstFree P29 (P29 50 xo) (P29 51 xo) ((if (P 54 xo) < (P 0 0) then (P 0 0) else (P 54 xo)) + (P 56 xo)))) (if (sg_freeOf P29 (Int32.toNatClampNeg (sg_firstFree P29 (P29 50 xo) (P29 51 xo) ((if (P 54 xo) < (P 0 0) then (P 0 0) else (P 54 xo)) + (P 56 xo))))) < (sg_missing P29 xo) then (sg_freeOf P29 (Int32.toNatClampNeg (sg_firstFree P29 (P29 50 xo) (P29 51 xo) ((if (P 54 xo) < (P 0 0) then (P 0 0) else (P 54 xo)) + (P 56 xo))))) else (sg_missing P29 xo))))))
theorem sg_reserveFor_29_K (P : sg_Pic) (xo : Nat) : ∀ (n : Nat) (P29 : sg_Pic), sg_K (sg_reserveFor_29 P xo n P29) P29
  | 0, P29 => by
    rw [sg_reserveFor_29]
    exact ⟨rfl, rfl⟩
  | n + 1, P29 => by
    rw [sg_reserveFor_29]
    repeat' split
    all_goals first | exact ⟨rfl, rfl⟩ | exact sg_K.trans (sg_reserveFor_29_K P xo n _) (by first | exact ⟨rfl, rfl⟩)

def sg_reserveFor (P : sg_Pic) (xo : Nat) : sg_Pic := (sg_reserveFor_29 P xo 200 P)

theorem sg_reserveFor_K (P : sg_Pic) (xo : Nat) : sg_K (sg_reserveFor P xo) P := by
  unfold sg_reserveFor
  repeat' split
  all_goals first | exact ⟨rfl, rfl⟩ | exact sg_reserveFor_29_K _ _ _ _
theorem sg_reserveFor_W {P : sg_Pic} {xo : Nat} (hw : sg_W P) : sg_W (sg_reserveFor P xo) := (sg_reserveFor_K P xo).W hw

set_option maxHeartbeats 4000000 in
set_option maxRecDepth 100000 in
/-- X6_reserveFor -/
theorem c_reserveFor (l : Launch) (D : va_G) (cI cZ cJ : ClassId) (lo sz : Nat) (a : Nat → Nat) (P : sg_Pic) (q : Nat → Int32) (xo : Nat) (hw : sg_W P) (ho : xo < 60) : Met l yX6_reserveFor wsX6_reserveFor ({ frames := 2, cells := 0, slots := 0, locals := 46 }) (Pre lo D cI cZ cJ [.ref (a 0), .int (nI xo)] sz (sg_St cI cZ a P q)) (va_Qv (fun _ : Unit => True) (fun _ t => va_P D vwCl (sg_St cI cZ a (sg_reserveFor P xo) q) t.heap ∧ va_D (va_A (sg_St cI cZ a P q) sz) (sg_St cI cZ a (sg_reserveFor P xo) q)) (va_A (sg_St cI cZ a P q) sz)) 0 0 (va_A (sg_St cI cZ a P q) sz) := by
  refine Met.ofW (cc := cX6_reserveFor) (maxL := 5) (ret := none) (by decide) rfl ?_
  intro p e s m args below meth c s₁ B hml hv
  obtain ⟨rfl, hsz, hP, hD0, hC⟩ := hv
  have hx := B.exec
  have hb := B.bytes
  have hr := B.returns
  have hts := atoms_spec (ws := wsX6_reserveFor) B.pre
  have hown : s.vm.findClass RX6 = some m.cls := findClass_of_methodNamed B.named
  have hlocks := B.notSynchronized
  subst hsz
  have hn1 : sg_cn P 1 ≤ 6 := hw.n1
  have hn2 : sg_cn P 2 ≤ 5 := hw.n2
  have hn3 : sg_cn P 3 ≤ 200 := hw.n3
  have hn4 : sg_cn P 4 ≤ 60 := hw.n4
  have hn5 : sg_cn P 5 ≤ 90 := hw.n5
  have hK := hC.K
  have hD := hD0.self (sz := s.heap.size)
  have hAlo0 := va_A_lo hD0 hC.1
  generalize hAe : va_A (sg_St cI cZ a P q) s.heap.size = A at hD hAlo0 ⊢
  have hA : ∀ q : Nat, s.heap.size ≤ q → A q := fun q h => by rw [← hAe]; exact Or.inr h
  have hAlo : ∀ q, A q → lo ≤ q := hAlo0
  have hS : va_S A s.heap s.heap [] := va_S.rf
  have hP : va_P D vwCl (sg_St cI cZ a P q) s.heap := hP
  have hl := lv_entry ([.ref (a 0), .int (nI xo)]) (n := 5) (Nat.le_of_ble_eq_true rfl)
  rw [lg_entry_eq]
  generalize (lg_sl ([.ref (a 0), .int (nI xo)]) ++ List.replicate (5 - (lg_sl ([.ref (a 0), .int (nI xo)])).length) Slot.unset).toArray = ls at hl ⊢
  have hl : lv_has ls 5 [(0, .ref (a 0)), (1, .int (nI xo))] := hl
  have in2 : ∀ w ∈ u_ws RX2 TX2 11, w ∈ wsX6_reserveFor := by decide +kernel
  have in6 : ∀ w ∈ u_ws RX6 TX6 9, w ∈ wsX6_reserveFor := by decide +kernel
  refine lv_aload_n hx hb dX6_reserveFor_0 rfl (lv_at hl 0 rfl) ?_
  refine va_get (D := D) (ci := 6) (v := .ref (a 5)) (C := RX6) (T := TX6) (N := 9) hx hb hts in6 hown hK hP 0 rfl rfl 5 (by decide) (hts (.fieldLink RX6 42 "Granary$Stock" "orders" "LGranary$Orders;") (by decide +kernel)) (fun _ h9 => h9) rfl dX6_reserveFor_1 ?_
  refine va_get (D := D) (ci := 2) (v := .ref (a 54)) (C := RX2) (T := TX2) (N := 11) hx hb hts in2 hown hK hP 5 rfl rfl 5 (by decide) (hts (.fieldLink RX6 158 "Granary$Orders" "due" "[I") (by decide +kernel)) (fun _ h9 => h9) rfl dX6_reserveFor_4 ?_
  refine lv_iload_n hx hb dX6_reserveFor_7 rfl (lv_at hl 1 rfl) ?_
  refine sg_iald hx hb hK hP 27 0 rfl rfl (j := xo) rfl (by omega) (Nat.le_of_ble_eq_true rfl) dX6_reserveFor_8 ?_
  refine lv_toi (y := P 54 xo) rfl ?_
  refine lv_aload_n hx hb dX6_reserveFor_9 rfl (lv_at hl 0 rfl) ?_
  refine va_get (D := D) (ci := 6) (v := .int (P 0 0)) (C := RX6) (T := TX6) (N := 9) hx hb hts in6 hown hK hP 0 rfl rfl 0 (by decide) (hts (.fieldLink RX6 60 "Granary$Stock" "day" "I") (by decide +kernel)) (fun _ h9 => h9) rfl dX6_reserveFor_10 ?_
  refine va_mmax hx hb (hml.trans hl.1.symm) hown (hts (.methodLink RX6 123 Lib.Math.max.name) (by decide +kernel)) (hts (.static Lib.Math.max.name) (by decide +kernel)) (hts (.initialized "java/lang/Math") (by decide +kernel)) (hts (.code Lib.Math.max.name Lib.Math.max.code 2 (some .int)) (by decide +kernel)) (Nat.le_of_ble_eq_true rfl) (Nat.le_of_ble_eq_true rfl) (Nat.le_of_ble_eq_true rfl) (Nat.le_of_ble_eq_true rfl) dX6_reserveFor_13 ?_
  refine lv_aload_n hx hb dX6_reserveFor_16 rfl (lv_at hl 0 rfl) ?_
  refine va_get (D := D) (ci := 6) (v := .ref (a 5)) (C := RX6) (T := TX6) (N := 9) hx hb hts in6 hown hK hP 0 rfl rfl 5 (by decide) (hts (.fieldLink RX6 42 "Granary$Stock" "orders" "LGranary$Orders;") (by decide +kernel)) (fun _ h9 => h9) rfl dX6_reserveFor_17 ?_
  refine va_get (D := D) (ci := 2) (v := .ref (a 56)) (C := RX2) (T := TX2) (N := 11) hx hb hts in2 hown hK hP 5 rfl rfl 7 (by decide) (hts (.fieldLink RX6 161 "Granary$Orders" "keep" "[I") (by decide +kernel)) (fun _ h9 => h9) rfl dX6_reserveFor_20 ?_
  refine lv_iload_n hx hb dX6_reserveFor_23 rfl (lv_at hl 1 rfl) ?_
  refine sg_iald hx hb hK hP 29 0 rfl rfl (j := xo) rfl (by omega) (Nat.le_of_ble_eq_true rfl) dX6_reserveFor_24 ?_
  refine lv_toi (y := P 56 xo) rfl ?_
  refine lv_iadd hx hb dX6_reserveFor_25 ?_
  refine lv_istore_n (lv' := [(2, .int ((if (P 54 xo) < (P 0 0) then (P 0 0) else (P 54 xo)) + (P 56 xo))), (0, .ref (a 0)), (1, .int (nI xo))]) hx hb dX6_reserveFor_26 rfl hl (by decide) rfl (fun ls hl => ?_)
  refine lv_iconst (v := 0) hx hb dX6_reserveFor_27 (by decide) ?_
  refine lv_istore_n (lv' := [(3, .int 0), (2, .int ((if (P 54 xo) < (P 0 0) then (P 0 0) else (P 54 xo)) + (P 56 xo))), (0, .ref (a 0)), (1, .int (nI xo))]) hx hb dX6_reserveFor_28 rfl hl (by decide) rfl (fun ls hl => ?_)
  obtain ⟨H, hH9⟩ : ∃ z : Heap, z = s.heap := ⟨_, rfl⟩
  replace hS : va_S A s.heap H [] := by rw [hH9]; exact va_S.rf
  replace hP : va_P D vwCl (sg_St cI cZ a P q) H := by rw [hH9]; exact hP
  rw [← hH9]
  clear hH9
  generalize ([] : List Loc) = locs at hS ⊢
  obtain ⟨T29, hTT29⟩ : ∃ z9 : sg_Pic, z9 = sg_reserveFor_29 P xo 200 P := ⟨_, rfl⟩
  obtain ⟨P29, hP29⟩ : ∃ z9 : sg_Pic, z9 = P := ⟨_, rfl⟩
  obtain ⟨j29, h0j29⟩ : ∃ j : Nat, j = 0 := ⟨_, rfl⟩
  obtain ⟨n29, hn29⟩ : ∃ n : Nat, n = 200 := ⟨_, rfl⟩
  replace hl : lv_has ls 5 [(3, .int (nI j29)), (2, .int ((if (P 54 xo) < (P 0 0) then (P 0 0) else (P 54 xo)) + (P 56 xo))), (0, .ref (a 0)), (1, .int (nI xo))] := by rw [h0j29]; exact hl
  replace hP : va_P D vwCl (sg_St cI cZ a P29 q) H := by rw [hP29]; exact hP
  replace hD : va_D A (sg_St cI cZ a P29 q) := by rw [hP29]; exact hD
  have hF29 : sg_reserveFor_29 P xo n29 P29 = T29 := by rw [hP29, hn29, hTT29]
  have hw29 : sg_W P29 := by rw [hP29]; exact hw
  have hjj29 : j29 + n29 = 200 := by omega
  clear h0j29 hn29
  clear hP29
  revert hP
  revert hD
  revert hS
  revert hl
  revert hF29
  revert hjj29
  revert hw29
  revert ls
  revert locs
  revert H
  revert P29
  revert j29
  induction n29 with
  | zero =>
    intro j29 P29 H locs ls hw29 hjj29 hF29 hl hS hD hP
    refine lv_iload_n hx hb dX6_reserveFor_29 rfl (lv_at hl 0 rfl) ?_
    refine lv_sipush (v := 200) hx hb dX6_reserveFor_30 (by decide) ?_
    have c_1 : (200 : Int32) ≤ nI j29 := sg_geN (show (200 : Int32) = nI (200) from rfl) (by omega) (by omega)
    refine lv_icmp_ge (tgt := 115) hx hb dX6_reserveFor_33 (by decide) (fun _ => ?_) (fun c9 => absurd c_1 c9)
    rw [sg_reserveFor_29] at hF29
    replace hl : lv_has ls 5 [(2, .int ((if (P 54 xo) < (P 0 0) then (P 0 0) else (P 54 xo)) + (P 56 xo))), (0, .ref (a 0)), (1, .int (nI xo))] := by exact lv_sub hl [1, 2, 3] rfl
    replace hP : va_P D vwCl (sg_St cI cZ a T29 q) H := by rw [← hF29]; exact hP
    replace hD : va_D A (sg_St cI cZ a T29 q) := by rw [← hF29]; exact hD
    clear hF29
    subst hTT29
    refine W.widen (k := 0) (n := 0) (by omega) (by omega) ?_
    have hP9 : va_P D vwCl (sg_St cI cZ a (sg_reserveFor P xo) q) H := by exact hP
    have hD9 : va_D A (sg_St cI cZ a (sg_reserveFor P xo) q) := by exact hD
    exact W.vret hx hb hr (fun t ht hW => ⟨⟨(), rfl, trivial, by rw [ht]; exact hP9, hD9⟩, hS.F ht⟩) hS.2.2 dX6_reserveFor_115
  | succ n29 ih29 =>
    intro j29 P29 H locs ls hw29 hjj29 hF29 hl hS hD hP
    refine lv_iload_n hx hb dX6_reserveFor_29 rfl (lv_at hl 0 rfl) ?_
    refine lv_sipush (v := 200) hx hb dX6_reserveFor_30 (by decide) ?_
    have c_2 : ¬ ((200 : Int32) ≤ nI j29) := sg_nge (show (200 : Int32) = nI (200) from rfl) (by omega) (by omega)
    refine lv_icmp_ge (tgt := 115) hx hb dX6_reserveFor_33 (by decide) (fun c9 => absurd c9 c_2) (fun _ => ?_)
    refine lv_aload_n hx hb dX6_reserveFor_36 rfl (lv_at hl 2 rfl) ?_
    refine va_get (D := D) (ci := 6) (v := .ref (a 5)) (C := RX6) (T := TX6) (N := 9) hx hb hts in6 hown hK hP 0 rfl rfl 5 (by decide) (hts (.fieldLink RX6 42 "Granary$Stock" "orders" "LGranary$Orders;") (by decide +kernel)) (fun _ h9 => h9) rfl dX6_reserveFor_37 ?_
    refine lv_iload_n hx hb dX6_reserveFor_40 rfl (lv_at hl 3 rfl) ?_
    have hPc := hP.sub (ws' := [(a 5, .inr (2, [.int (P29 0 4), .ref (a 50), .ref (a 51), .ref (a 52), .ref (a 53), .ref (a 54), .ref (a 55), .ref (a 56), .ref (a 57), .ref (a 58), .ref (a 59)])), (a 52, .inl (cI, 60, .inl (P29 52))), (a 53, .inl (cI, 60, .inl (P29 53)))]) [5, 25, 26] rfl
    have hDc := hD.sub (ws' := [(a 5, .inr (2, [.int (P29 0 4), .ref (a 50), .ref (a 51), .ref (a 52), .ref (a 53), .ref (a 54), .ref (a 55), .ref (a 56), .ref (a 57), .ref (a 58), .ref (a 59)])), (a 52, .inl (cI, 60, .inl (P29 52))), (a 53, .inl (cI, 60, .inl (P29 53)))]) [5, 25, 26] (by decide) rfl
    refine vp_callSi (W.runV (As := [.int (nI xo)]) (rest := []) ⟨hx, hb, hml, hown, hts⟩ (c_missing l D cI cZ cJ lo H.size a P29 xo (by omega)) (cwV 1 hts gX6_reserveFor_X2_missing rfl rfl rfl (by decide +kernel) ⟨(Nat.le_of_ble_eq_true rfl), (Nat.le_of_ble_eq_true rfl)⟩) ⟨Pre.blind, va_recv hK hP (ci := 2) (q0 := 5) rfl rfl, Pre.mk hPc (hDc.weaken (fun _ _ _ h => hAlo _ h)) hC hS hAlo⟩ rfl rfl hl.1 rfl (lv_room (Nat.le_of_ble_eq_true rfl)) dX6_reserveFor_41 ⟨(Nat.le_of_ble_eq_true rfl), (Nat.le_of_ble_eq_true rfl)⟩) (fun r_3 e_4 => ?_)
    clear hPc hDc
    have e_4 : sg_missing P29 xo = r_3 := Eq.symm e_4
    subst e_4
    refine lv_if_le (tgt := 115) hx hb dX6_reserveFor_44 (by decide) (fun c_5 => ?_) (fun c_5 => ?_)
    · rw [sg_reserveFor_29, if_pos c_5] at hF29
      replace hl : lv_has ls 5 [(2, .int ((if (P 54 xo) < (P 0 0) then (P 0 0) else (P 54 xo)) + (P 56 xo))), (0, .ref (a 0)), (1, .int (nI xo))] := by exact lv_sub hl [1, 2, 3] rfl
      replace hP : va_P D vwCl (sg_St cI cZ a T29 q) H := by rw [← hF29]; exact hP
      replace hD : va_D A (sg_St cI cZ a T29 q) := by rw [← hF29]; exact hD
      clear hF29 ih29
      subst hTT29
      refine W.widen (k := 0) (n := 0) (by omega) (by omega) ?_
      have hP9 : va_P D vwCl (sg_St cI cZ a (sg_reserveFor P xo) q) H := by exact hP
      have hD9 : va_D A (sg_St cI cZ a (sg_reserveFor P xo) q) := by exact hD
      exact W.vret hx hb hr (fun t ht hW => ⟨⟨(), rfl, trivial, by rw [ht]; exact hP9, hD9⟩, hS.F ht⟩) hS.2.2 dX6_reserveFor_115
    · refine lv_aload_n hx hb dX6_reserveFor_47 rfl (lv_at hl 2 rfl) ?_
      refine va_get (D := D) (ci := 6) (v := .ref (a 4)) (C := RX6) (T := TX6) (N := 9) hx hb hts in6 hown hK hP 0 rfl rfl 4 (by decide) (hts (.fieldLink RX6 35 "Granary$Stock" "lots" "LGranary$Lots;") (by decide +kernel)) (fun _ h9 => h9) rfl dX6_reserveFor_48 ?_
      refine lv_aload_n hx hb dX6_reserveFor_51 rfl (lv_at hl 2 rfl) ?_
      refine va_get (D := D) (ci := 6) (v := .ref (a 5)) (C := RX6) (T := TX6) (N := 9) hx hb hts in6 hown hK hP 0 rfl rfl 5 (by decide) (hts (.fieldLink RX6 42 "Granary$Stock" "orders" "LGranary$Orders;") (by decide +kernel)) (fun _ h9 => h9) rfl dX6_reserveFor_52 ?_
      refine va_get (D := D) (ci := 2) (v := .ref (a 50)) (C := RX2) (T := TX2) (N := 11) hx hb hts in2 hown hK hP 5 rfl rfl 1 (by decide) (hts (.fieldLink RX6 167 "Granary$Orders" "item" "[I") (by decide +kernel)) (fun _ h9 => h9) rfl dX6_reserveFor_55 ?_
      refine lv_iload_n hx hb dX6_reserveFor_58 rfl (lv_at hl 3 rfl) ?_
      refine sg_iald hx hb hK hP 23 0 rfl rfl (j := xo) rfl (by omega) (Nat.le_of_ble_eq_true rfl) dX6_reserveFor_59 ?_
      refine lv_toi (y := P29 50 xo) rfl ?_
      refine lv_aload_n hx hb dX6_reserveFor_60 rfl (lv_at hl 2 rfl) ?_
      refine va_get (D := D) (ci := 6) (v := .ref (a 5)) (C := RX6) (T := TX6) (N := 9) hx hb hts in6 hown hK hP 0 rfl rfl 5 (by decide) (hts (.fieldLink RX6 42 "Granary$Stock" "orders" "LGranary$Orders;") (by decide +kernel)) (fun _ h9 => h9) rfl dX6_reserveFor_61 ?_
      refine va_get (D := D) (ci := 2) (v := .ref (a 51)) (C := RX2) (T := TX2) (N := 11) hx hb hts in2 hown hK hP 5 rfl rfl 2 (by decide) (hts (.fieldLink RX6 170 "Granary$Orders" "site" "[I") (by decide +kernel)) (fun _ h9 => h9) rfl dX6_reserveFor_64 ?_
      refine lv_iload_n hx hb dX6_reserveFor_67 rfl (lv_at hl 3 rfl) ?_
      refine sg_iald hx hb hK hP 24 0 rfl rfl (j := xo) rfl (by omega) (Nat.le_of_ble_eq_true rfl) dX6_reserveFor_68 ?_
      refine lv_toi (y := P29 51 xo) rfl ?_
      refine lv_iload_n hx hb dX6_reserveFor_69 rfl (lv_at hl 1 rfl) ?_
      have hPc := hP.sub (ws' := [(a 4, .inr (1, [.int (P29 0 3), .ref (a 40), .ref (a 41), .ref (a 42), .ref (a 43), .ref (a 44)])), (a 40, .inl (cI, 200, .inl (P29 40))), (a 41, .inl (cI, 200, .inl (P29 41))), (a 42, .inl (cI, 200, .inl (P29 42))), (a 43, .inl (cI, 200, .inl (P29 43))), (a 44, .inl (cI, 200, .inl (P29 44)))]) [4, 18, 19, 20, 21, 22] rfl
      have hDc := hD.sub (ws' := [(a 4, .inr (1, [.int (P29 0 3), .ref (a 40), .ref (a 41), .ref (a 42), .ref (a 43), .ref (a 44)])), (a 40, .inl (cI, 200, .inl (P29 40))), (a 41, .inl (cI, 200, .inl (P29 41))), (a 42, .inl (cI, 200, .inl (P29 42))), (a 43, .inl (cI, 200, .inl (P29 43))), (a 44, .inl (cI, 200, .inl (P29 44)))]) [4, 18, 19, 20, 21, 22] (by decide) rfl
      refine vp_callSi (W.runV (As := [.int (P29 50 xo), .int (P29 51 xo), .int ((if (P 54 xo) < (P 0 0) then (P 0 0) else (P 54 xo)) + (P 56 xo))]) (rest := []) ⟨hx, hb, hml, hown, hts⟩ (c_firstFree l D cI cZ cJ lo H.size a P29 (P29 50 xo) (P29 51 xo) ((if (P 54 xo) < (P 0 0) then (P 0 0) else (P 54 xo)) + (P 56 xo)) hw29) (cwV 3 hts gX6_reserveFor_X1_firstFree rfl rfl rfl (by decide +kernel) ⟨(Nat.le_of_ble_eq_true rfl), (Nat.le_of_ble_eq_true rfl)⟩) ⟨Pre.blind, va_recv hK hP (ci := 1) (q0 := 4) rfl rfl, Pre.mk hPc (hDc.weaken (fun _ _ _ h => hAlo _ h)) hC hS hAlo⟩ rfl rfl hl.1 rfl (lv_room (Nat.le_of_ble_eq_true rfl)) dX6_reserveFor_70 ⟨(Nat.le_of_ble_eq_true rfl), (Nat.le_of_ble_eq_true rfl)⟩) (fun r_6 e_7 => ?_)
      clear hPc hDc
      have e_7 : sg_firstFree P29 (P29 50 xo) (P29 51 xo) ((if (P 54 xo) < (P 0 0) then (P 0 0) else (P 54 xo)) + (P 56 xo)) = r_6 := Eq.symm e_7
      subst e_7
      refine lv_istore (lv' := [(4, .int (sg_firstFree P29 (P29 50 xo) (P29 51 xo) ((if (P 54 xo) < (P 0 0) then (P 0 0) else (P 54 xo)) + (P 56 xo)))), (3, .int (nI j29)), (2, .int ((if (P 54 xo) < (P 0 0) then (P 0 0) else (P 54 xo)) + (P 56 xo))), (0, .ref (a 0)), (1, .int (nI xo))]) hx hb dX6_reserveFor_73 hl (by decide) rfl (fun ls hl => ?_)
      refine lv_iload hx hb dX6_reserveFor_75 (lv_at hl 0 rfl) ?_
      refine lv_iconst (v := (-1)) hx hb dX6_reserveFor_77 (by decide) ?_
      refine lv_icmp_ne (tgt := 82) hx hb dX6_reserveFor_78 (by decide) (fun c_8 => ?_) (fun c_8 => ?_)
      · obtain ⟨e_9, le_9⟩ := sg_ff hw29 c_8
        have e_9 : (sg_firstFree P29 (P29 50 xo) (P29 51 xo) ((if (P 54 xo) < (P 0 0) then (P 0 0) else (P 54 xo)) + (P 56 xo)) : Int32) = nI (Int32.toNatClampNeg (sg_firstFree P29 (P29 50 xo) (P29 51 xo) ((if (P 54 xo) < (P 0 0) then (P 0 0) else (P 54 xo)) + (P 56 xo)))) := e_9
        have le_9 : Int32.toNatClampNeg (sg_firstFree P29 (P29 50 xo) (P29 51 xo) ((if (P 54 xo) < (P 0 0) then (P 0 0) else (P 54 xo)) + (P 56 xo))) < sg_cn P29 3 := le_9
        replace hl : lv_has ls 5 [(4, .int (nI (Int32.toNatClampNeg (sg_firstFree P29 (P29 50 xo) (P29 51 xo) ((if (P 54 xo) < (P 0 0) then (P 0 0) else (P 54 xo)) + (P 56 xo)))))), (3, .int (nI j29)), (2, .int ((if (P 54 xo) < (P 0 0) then (P 0 0) else (P 54 xo)) + (P 56 xo))), (0, .ref (a 0)), (1, .int (nI xo))] := by rw [← e_9]; exact hl
        have hn29_3 : sg_cn P29 3 ≤ 200 := hw29.n3
        refine lv_aload_n hx hb dX6_reserveFor_82 rfl (lv_at hl 3 rfl) ?_
        refine lv_iload_n hx hb dX6_reserveFor_83 rfl (lv_at hl 4 rfl) ?_
        refine lv_iload hx hb dX6_reserveFor_84 (lv_at hl 0 rfl) ?_
        refine lv_aload_n hx hb dX6_reserveFor_86 rfl (lv_at hl 3 rfl) ?_
        refine va_get (D := D) (ci := 6) (v := .ref (a 5)) (C := RX6) (T := TX6) (N := 9) hx hb hts in6 hown hK hP 0 rfl rfl 5 (by decide) (hts (.fieldLink RX6 42 "Granary$Stock" "orders" "LGranary$Orders;") (by decide +kernel)) (fun _ h9 => h9) rfl dX6_reserveFor_87 ?_
        refine lv_iload_n hx hb dX6_reserveFor_90 rfl (lv_at hl 4 rfl) ?_
        have hPc := hP.sub (ws' := [(a 5, .inr (2, [.int (P29 0 4), .ref (a 50), .ref (a 51), .ref (a 52), .ref (a 53), .ref (a 54), .ref (a 55), .ref (a 56), .ref (a 57), .ref (a 58), .ref (a 59)])), (a 52, .inl (cI, 60, .inl (P29 52))), (a 53, .inl (cI, 60, .inl (P29 53)))]) [5, 25, 26] rfl
        have hDc := hD.sub (ws' := [(a 5, .inr (2, [.int (P29 0 4), .ref (a 50), .ref (a 51), .ref (a 52), .ref (a 53), .ref (a 54), .ref (a 55), .ref (a 56), .ref (a 57), .ref (a 58), .ref (a 59)])), (a 52, .inl (cI, 60, .inl (P29 52))), (a 53, .inl (cI, 60, .inl (P29 53)))]) [5, 25, 26] (by decide) rfl
        refine vp_callSi (W.runV (As := [.int (nI xo)]) (rest := [.int (nI (Int32.toNatClampNeg (sg_firstFree P29 (P29 50 xo) (P29 51 xo) ((if (P 54 xo) < (P 0 0) then (P 0 0) else (P 54 xo)) + (P 56 xo))))), .int (nI xo), .ref (a 0)]) ⟨hx, hb, hml, hown, hts⟩ (c_missing l D cI cZ cJ lo H.size a P29 xo (by omega)) (cwV 1 hts gX6_reserveFor_X2_missing rfl rfl rfl (by decide +kernel) ⟨(Nat.le_of_ble_eq_true rfl), (Nat.le_of_ble_eq_true rfl)⟩) ⟨Pre.blind, va_recv hK hP (ci := 2) (q0 := 5) rfl rfl, Pre.mk hPc (hDc.weaken (fun _ _ _ h => hAlo _ h)) hC hS hAlo⟩ rfl rfl hl.1 rfl (lv_room (Nat.le_of_ble_eq_true rfl)) dX6_reserveFor_91 ⟨(Nat.le_of_ble_eq_true rfl), (Nat.le_of_ble_eq_true rfl)⟩) (fun r_10 e_11 => ?_)
        clear hPc hDc
        have e_11 : sg_missing P29 xo = r_10 := Eq.symm e_11
        subst e_11
        refine lv_aload_n hx hb dX6_reserveFor_94 rfl (lv_at hl 3 rfl) ?_
        refine va_get (D := D) (ci := 6) (v := .ref (a 4)) (C := RX6) (T := TX6) (N := 9) hx hb hts in6 hown hK hP 0 rfl rfl 4 (by decide) (hts (.fieldLink RX6 35 "Granary$Stock" "lots" "LGranary$Lots;") (by decide +kernel)) (fun _ h9 => h9) rfl dX6_reserveFor_95 ?_
        refine lv_iload hx hb dX6_reserveFor_98 (lv_at hl 0 rfl) ?_
        have hPc := hP.sub (ws' := [(a 4, .inr (1, [.int (P29 0 3), .ref (a 40), .ref (a 41), .ref (a 42), .ref (a 43), .ref (a 44)])), (a 42, .inl (cI, 200, .inl (P29 42))), (a 43, .inl (cI, 200, .inl (P29 43)))]) [4, 20, 21] rfl
        have hDc := hD.sub (ws' := [(a 4, .inr (1, [.int (P29 0 3), .ref (a 40), .ref (a 41), .ref (a 42), .ref (a 43), .ref (a 44)])), (a 42, .inl (cI, 200, .inl (P29 42))), (a 43, .inl (cI, 200, .inl (P29 43)))]) [4, 20, 21] (by decide) rfl
        refine vp_callSi (W.runV (As := [.int (nI (Int32.toNatClampNeg (sg_firstFree P29 (P29 50 xo) (P29 51 xo) ((if (P 54 xo) < (P 0 0) then (P 0 0) else (P 54 xo)) + (P 56 xo)))))]) (rest := [.int (sg_missing P29 xo), .int (nI (Int32.toNatClampNeg (sg_firstFree P29 (P29 50 xo) (P29 51 xo) ((if (P 54 xo) < (P 0 0) then (P 0 0) else (P 54 xo)) + (P 56 xo))))), .int (nI xo), .ref (a 0)]) ⟨hx, hb, hml, hown, hts⟩ (c_freeOf l D cI cZ cJ lo H.size a P29 (Int32.toNatClampNeg (sg_firstFree P29 (P29 50 xo) (P29 51 xo) ((if (P 54 xo) < (P 0 0) then (P 0 0) else (P 54 xo)) + (P 56 xo)))) (by omega)) (cwV 1 hts gX6_reserveFor_X1_freeOf rfl rfl rfl (by decide +kernel) ⟨(Nat.le_of_ble_eq_true rfl), (Nat.le_of_ble_eq_true rfl)⟩) ⟨Pre.blind, va_recv hK hP (ci := 1) (q0 := 4) rfl rfl, Pre.mk hPc (hDc.weaken (fun _ _ _ h => hAlo _ h)) hC hS hAlo⟩ rfl rfl hl.1 rfl (lv_room (Nat.le_of_ble_eq_true rfl)) dX6_reserveFor_100 ⟨(Nat.le_of_ble_eq_true rfl), (Nat.le_of_ble_eq_true rfl)⟩) (fun r_12 e_13 => ?_)
        clear hPc hDc
        have e_13 : sg_freeOf P29 (Int32.toNatClampNeg (sg_firstFree P29 (P29 50 xo) (P29 51 xo) ((if (P 54 xo) < (P 0 0) then (P 0 0) else (P 54 xo)) + (P 56 xo)))) = r_12 := Eq.symm e_13
        subst e_13
        refine va_mmin hx hb (hml.trans hl.1.symm) hown (hts (.methodLink RX6 134 Lib.Math.min.name) (by decide +kernel)) (hts (.static Lib.Math.min.name) (by decide +kernel)) (hts (.initialized "java/lang/Math") (by decide +kernel)) (hts (.code Lib.Math.min.name Lib.Math.min.code 2 (some .int)) (by decide +kernel)) (Nat.le_of_ble_eq_true rfl) (Nat.le_of_ble_eq_true rfl) (Nat.le_of_ble_eq_true rfl) (Nat.le_of_ble_eq_true rfl) dX6_reserveFor_103 ?_
        have hPc : va_P D vwCl (sg_St cI cZ a P29 q) H := hP
        have hDc : va_D A (sg_St cI cZ a P29 q) := hD
        have hFc := va_free (wc := (sg_St cI cZ a P29 q)) hD hS hA [0, 1, 2, 3, 4, 5, 6, 7, 8, 9, 10, 11, 12, 13, 14, 15, 16, 17, 18, 19, 20, 21, 22, 23, 24, 25, 26, 27, 28, 29, 30, 31, 32, 33, 34, 35, 36, 37, 38, 39, 40] rfl
        refine va_callv (va_runV (As := [.int (nI xo), .int (nI (Int32.toNatClampNeg (sg_firstFree P29 (P29 50 xo) (P29 51 xo) ((if (P 54 xo) < (P 0 0) then (P 0 0) else (P 54 xo)) + (P 56 xo))))), .int (if (sg_freeOf P29 (Int32.toNatClampNeg (sg_firstFree P29 (P29 50 xo) (P29 51 xo) ((if (P 54 xo) < (P 0 0) then (P 0 0) else (P 54 xo)) + (P 56 xo))))) < (sg_missing P29 xo) then (sg_freeOf P29 (Int32.toNatClampNeg (sg_firstFree P29 (P29 50 xo) (P29 51 xo) ((if (P 54 xo) < (P 0 0) then (P 0 0) else (P 54 xo)) + (P 56 xo))))) else (sg_missing P29 xo))]) (rest := []) ⟨hx, hb, hml, hown, hts⟩ (c_hold l D cI cZ cJ lo H.size a P29 q xo (Int32.toNatClampNeg (sg_firstFree P29 (P29 50 xo) (P29 51 xo) ((if (P 54 xo) < (P 0 0) then (P 0 0) else (P 54 xo)) + (P 56 xo)))) (if (sg_freeOf P29 (Int32.toNatClampNeg (sg_firstFree P29 (P29 50 xo) (P29 51 xo) ((if (P 54 xo) < (P 0 0) then (P 0 0) else (P 54 xo)) + (P 56 xo))))) < (sg_missing P29 xo) then (sg_freeOf P29 (Int32.toNatClampNeg (sg_firstFree P29 (P29 50 xo) (P29 51 xo) ((if (P 54 xo) < (P 0 0) then (P 0 0) else (P 54 xo)) + (P 56 xo))))) else (sg_missing P29 xo)) (by omega) (by omega)) (cwV 3 hts gX6_reserveFor_X6_hold rfl rfl rfl (by decide +kernel) ⟨(Nat.le_of_ble_eq_true rfl), (Nat.le_of_ble_eq_true rfl)⟩) ⟨Pre.blind, va_recv hK hP (ci := 6) (q0 := 0) rfl rfl, Pre.mk hPc (hDc.weaken (fun _ _ _ h => hAlo _ h)) hC hS hAlo⟩ rfl rfl hl.1 rfl (lv_room (Nat.le_of_ble_eq_true rfl)) dX6_reserveFor_106 ⟨(Nat.le_of_ble_eq_true rfl), (Nat.le_of_ble_eq_true rfl)⟩) hS (fun q _ h => hFc q h) hFc (fun u t H1 locs1 ht hvm e_14 hB hz1 hk1 hS1 => ?_)
        have hS := hS1
        obtain ⟨hP1, hD1⟩ := hB
        rw [ht] at hP1
        obtain ⟨hP, hD⟩ := va_join (wr := []) (w1 := (sg_St cI cZ a (sg_hold P29 xo (Int32.toNatClampNeg (sg_firstFree P29 (P29 50 xo) (P29 51 xo) ((if (P 54 xo) < (P 0 0) then (P 0 0) else (P 54 xo)) + (P 56 xo)))) (if (sg_freeOf P29 (Int32.toNatClampNeg (sg_firstFree P29 (P29 50 xo) (P29 51 xo) ((if (P 54 xo) < (P 0 0) then (P 0 0) else (P 54 xo)) + (P 56 xo))))) < (sg_missing P29 xo) then (sg_freeOf P29 (Int32.toNatClampNeg (sg_firstFree P29 (P29 50 xo) (P29 51 xo) ((if (P 54 xo) < (P 0 0) then (P 0 0) else (P 54 xo)) + (P 56 xo))))) else (sg_missing P29 xo))) q)) hP hD [0, 1, 2, 3, 4, 5, 6, 7, 8, 9, 10, 11, 12, 13, 14, 15, 16, 17, 18, 19, 20, 21, 22, 23, 24, 25, 26, 27, 28, 29, 30, 31, 32, 33, 34, 35, 36, 37, 38, 39, 40] [] rfl rfl (by decide) (by decide) hk1 hFc hP1 hD1
        have e_14 : True := e_14
        clear hFc hPc hDc ht hvm hz1 hk1 hS1 hP1 hD1
        generalize H1 = H at hP hS ⊢
        replace hP : va_P D vwCl (sg_St cI cZ a (sg_hold P29 xo (Int32.toNatClampNeg (sg_firstFree P29 (P29 50 xo) (P29 51 xo) ((if (P 54 xo) < (P 0 0) then (P 0 0) else (P 54 xo)) + (P 56 xo)))) (if (sg_freeOf P29 (Int32.toNatClampNeg (sg_firstFree P29 (P29 50 xo) (P29 51 xo) ((if (P 54 xo) < (P 0 0) then (P 0 0) else (P 54 xo)) + (P 56 xo))))) < (sg_missing P29 xo) then (sg_freeOf P29 (Int32.toNatClampNeg (sg_firstFree P29 (P29 50 xo) (P29 51 xo) ((if (P 54 xo) < (P 0 0) then (P 0 0) else (P 54 xo)) + (P 56 xo))))) else (sg_missing P29 xo))) q) H := hP
        replace hD : va_D A (sg_St cI cZ a (sg_hold P29 xo (Int32.toNatClampNeg (sg_firstFree P29 (P29 50 xo) (P29 51 xo) ((if (P 54 xo) < (P 0 0) then (P 0 0) else (P 54 xo)) + (P 56 xo)))) (if (sg_freeOf P29 (Int32.toNatClampNeg (sg_firstFree P29 (P29 50 xo) (P29 51 xo) ((if (P 54 xo) < (P 0 0) then (P 0 0) else (P 54 xo)) + (P 56 xo))))) < (sg_missing P29 xo) then (sg_freeOf P29 (Int32.toNatClampNeg (sg_firstFree P29 (P29 50 xo) (P29 51 xo) ((if (P 54 xo) < (P 0 0) then (P 0 0) else (P 54 xo)) + (P 56 xo))))) else (sg_missing P29 xo))) q) := hD
        refine lv_iinc (v := nI (j29 + 1)) (lv' := [(3, .int (nI (j29 + 1))), (4, .int (nI (Int32.toNatClampNeg (sg_firstFree P29 (P29 50 xo) (P29 51 xo) ((if (P 54 xo) < (P 0 0) then (P 0 0) else (P 54 xo)) + (P 56 xo)))))), (2, .int ((if (P 54 xo) < (P 0 0) then (P 0 0) else (P 54 xo)) + (P 56 xo))), (0, .ref (a 0)), (1, .int (nI xo))]) hx hb dX6_reserveFor_109 hl (k := 1) rfl (nI_1 j29) (by decide) rfl (fun ls hl => ?_)
        refine lv_goto (tgt := 29) hx hb dX6_reserveFor_112 (by decide) ?_
        exact ih29 (j29 + 1) (sg_hold P29 xo (Int32.toNatClampNeg (sg_firstFree P29 (P29 50 xo) (P29 51 xo) ((if (P 54 xo) < (P 0 0) then (P 0 0) else (P 54 xo)) + (P 56 xo)))) (if (sg_freeOf P29 (Int32.toNatClampNeg (sg_firstFree P29 (P29 50 xo) (P29 51 xo) ((if (P 54 xo) < (P 0 0) then (P 0 0) else (P 54 xo)) + (P 56 xo))))) < (sg_missing P29 xo) then (sg_freeOf P29 (Int32.toNatClampNeg (sg_firstFree P29 (P29 50 xo) (P29 51 xo) ((if (P 54 xo) < (P 0 0) then (P 0 0) else (P 54 xo)) + (P 56 xo))))) else (sg_missing P29 xo))) H _ ls (sg_hold_W hw29) (by omega) (show sg_reserveFor_29 P xo n29 (sg_hold P29 xo (Int32.toNatClampNeg (sg_firstFree P29 (P29 50 xo) (P29 51 xo) ((if (P 54 xo) < (P 0 0) then (P 0 0) else (P 54 xo)) + (P 56 xo)))) (if (sg_freeOf P29 (Int32.toNatClampNeg (sg_firstFree P29 (P29 50 xo) (P29 51 xo) ((if (P 54 xo) < (P 0 0) then (P 0 0) else (P 54 xo)) + (P 56 xo))))) < (sg_missing P29 xo) then (sg_freeOf P29 (Int32.toNatClampNeg (sg_firstFree P29 (P29 50 xo) (P29 51 xo) ((if (P 54 xo) < (P 0 0) then (P 0 0) else (P 54 xo)) + (P 56 xo))))) else (sg_missing P29 xo))) = T29 from by rw [← hF29, sg_reserveFor_29, if_neg c_5, if_neg c_8]) (lv_sub hl [0, 2, 3, 4] rfl) hS hD hP
      · rw [sg_reserveFor_29, if_neg c_5, if_pos c_8] at hF29
        replace hl : lv_has ls 5 [(2, .int ((if (P 54 xo) < (P 0 0) then (P 0 0) else (P 54 xo)) + (P 56 xo))), (0, .ref (a 0)), (1, .int (nI xo))] := by exact lv_sub hl [2, 3, 4] rfl
        replace hP : va_P D vwCl (sg_St cI cZ a T29 q) H := by rw [← hF29]; exact hP
        replace hD : va_D A (sg_St cI cZ a T29 q) := by rw [← hF29]; exact hD
        clear hF29 ih29
        subst hTT29
        refine W.widen (k := 0) (n := 0) (by omega) (by omega) ?_
        have hP9 : va_P D vwCl (sg_St cI cZ a (sg_reserveFor P xo) q) H := by exact hP
        have hD9 : va_D A (sg_St cI cZ a (sg_reserveFor P xo) q) := by exact hD
        exact W.vret hx hb hr (fun t ht hW => ⟨⟨(), rfl, trivial, by rw [ht]; exact hP9, hD9⟩, hS.F ht⟩) hS.2.2 dX6_reserveFor_81

def sg_shipOrder_2 (P : sg_Pic) (xo : Nat) : Nat → sg_Pic
  | 0 => P
  | j2 + 1 => (sg_up (sg_hold (sg_shipOrder_2 P xo j2) xo j2 (-(sg_heldOf (sg_shipOrder_2 P xo j2) xo j2))) 42 j2 (((sg_hold (sg_shipOrder_2 P xo j2) xo j2 (-(sg_heldOf (sg_shipOrder_2 P xo j2) xo j2))) 42 j2) - (sg_heldOf (sg_shipOrder_2 P xo j2) xo j2)))
theorem sg_shipOrder_2_K (P : sg_Pic) (xo : Nat) : ∀ j : Nat, sg_K (sg_shipOrder_2 P xo j) P
  | 0 => by exact ⟨rfl, rfl⟩
  | j + 1 => by
    have h := sg_shipOrder_2_K P xo j
    rw [sg_shipOrder_2]
    repeat' split
    all_goals first | exact h | (refine sg_K.trans ?_ h; exact ⟨rfl, rfl⟩)

def sg_shipOrder (P : sg_Pic) (xo : Nat) : sg_Pic := (if (sg_X0_has (sg_up (sg_up (sg_up (sg_shipOrder_2 P xo (sg_cn P 3)) 57 xo 1) 58 xo ((sg_shipOrder_2 P xo (sg_cn P 3)) 0 0)) 70 4 (((sg_shipOrder_2 P xo (sg_cn P 3)) 70 4) + ((((sg_shipOrder_2 P xo (sg_cn P 3)) 52 xo) * 2) * (sg_priceOf (sg_up (sg_up (sg_shipOrder_2 P xo (sg_cn P 3)) 57 xo 1) 58 xo ((sg_shipOrder_2 P xo (sg_cn P 3)) 0 0)) ((sg_shipOrder_2 P xo (sg_cn P 3)) 50 xo))))) ((sg_shipOrder_2 P xo (sg_cn P 3)) 50 xo)) = 0 then (sg_up (sg_up (sg_up (sg_shipOrder_2 P xo (sg_cn P 3)) 57 xo 1) 58 xo ((sg_shipOrder_2 P xo (sg_cn P 3)) 0 0)) 70 4 (((sg_shipOrder_2 P xo (sg_cn P 3)) 70 4) + ((((sg_shipOrder_2 P xo (sg_cn P 3)) 52 xo) * 2) * (sg_priceOf (sg_up (sg_up (sg_shipOrder_2 P xo (sg_cn P 3)) 57 xo 1) 58 xo ((sg_shipOrder_2 P xo (sg_cn P 3)) 0 0)) ((sg_shipOrder_2 P xo (sg_cn P 3)) 50 xo))))) else (sg_up (sg_up (sg_up (sg_up (sg_shipOrder_2 P xo (sg_cn P 3)) 57 xo 1) 58 xo ((sg_shipOrder_2 P xo (sg_cn P 3)) 0 0)) 70 4 (((sg_shipOrder_2 P xo (sg_cn P 3)) 70 4) + ((((sg_shipOrder_2 P xo (sg_cn P 3)) 52 xo) * 2) * (sg_priceOf (sg_up (sg_up (sg_shipOrder_2 P xo (sg_cn P 3)) 57 xo 1) 58 xo ((sg_shipOrder_2 P xo (sg_cn P 3)) 0 0)) ((sg_shipOrder_2 P xo (sg_cn P 3)) 50 xo))))) 13 (Int32.toNatClampNeg ((sg_shipOrder_2 P xo (sg_cn P 3)) 50 xo)) (((sg_shipOrder_2 P xo (sg_cn P 3)) 13 (Int32.toNatClampNeg ((sg_shipOrder_2 P xo (sg_cn P 3)) 50 xo))) + ((((sg_shipOrder_2 P xo (sg_cn P 3)) 52 xo) * 2) * (sg_priceOf (sg_up (sg_up (sg_shipOrder_2 P xo (sg_cn P 3)) 57 xo 1) 58 xo ((sg_shipOrder_2 P xo (sg_cn P 3)) 0 0)) ((sg_shipOrder_2 P xo (sg_cn P 3)) 50 xo))))))

theorem sg_shipOrder_K (P : sg_Pic) (xo : Nat) : sg_K (sg_shipOrder P xo) P := by
  unfold sg_shipOrder
  repeat' split
  all_goals first | exact ⟨rfl, rfl⟩ | exact ⟨(sg_shipOrder_2_K _ _ _).1, (sg_shipOrder_2_K _ _ _).2⟩
theorem sg_shipOrder_W {P : sg_Pic} {xo : Nat} (hw : sg_W P) : sg_W (sg_shipOrder P xo) := (sg_shipOrder_K P xo).W hw

set_option maxHeartbeats 4000000 in
set_option maxRecDepth 100000 in
/-- X6_shipOrder -/
theorem c_shipOrder (l : Launch) (D : va_G) (cI cZ cJ : ClassId) (lo sz : Nat) (a : Nat → Nat) (P : sg_Pic) (q : Nat → Int32) (xo : Nat) (hw : sg_W P) (ho : xo < 60) : Met l yX6_shipOrder wsX6_shipOrder ({ frames := 2, cells := 0, slots := 0, locals := 42 }) (Pre lo D cI cZ cJ [.ref (a 0), .int (nI xo)] sz (sg_St cI cZ a P q)) (va_Qv (fun _ : Unit => True) (fun _ t => va_P D vwCl (sg_St cI cZ a (sg_shipOrder P xo) q) t.heap ∧ va_D (va_A (sg_St cI cZ a P q) sz) (sg_St cI cZ a (sg_shipOrder P xo) q)) (va_A (sg_St cI cZ a P q) sz)) 0 0 (va_A (sg_St cI cZ a P q) sz) := by
  refine Met.ofW (cc := cX6_shipOrder) (maxL := 4) (ret := none) (by decide) rfl ?_
  intro p e s m args below meth c s₁ B hml hv
  obtain ⟨rfl, hsz, hP, hD0, hC⟩ := hv
  have hx := B.exec
  have hb := B.bytes
  have hr := B.returns
  have hts := atoms_spec (ws := wsX6_shipOrder) B.pre
  have hown : s.vm.findClass RX6 = some m.cls := findClass_of_methodNamed B.named
  have hlocks := B.notSynchronized
  subst hsz
  have hn1 : sg_cn P 1 ≤ 6 := hw.n1
  have hn2 : sg_cn P 2 ≤ 5 := hw.n2
  have hn3 : sg_cn P 3 ≤ 200 := hw.n3
  have hn4 : sg_cn P 4 ≤ 60 := hw.n4
  have hn5 : sg_cn P 5 ≤ 90 := hw.n5
  have hK := hC.K
  have hD := hD0.self (sz := s.heap.size)
  have hAlo0 := va_A_lo hD0 hC.1
  generalize hAe : va_A (sg_St cI cZ a P q) s.heap.size = A at hD hAlo0 ⊢
  have hA : ∀ q : Nat, s.heap.size ≤ q → A q := fun q h => by rw [← hAe]; exact Or.inr h
  have hAlo : ∀ q, A q → lo ≤ q := hAlo0
  have hS : va_S A s.heap s.heap [] := va_S.rf
  have hP : va_P D vwCl (sg_St cI cZ a P q) s.heap := hP
  have hl := lv_entry ([.ref (a 0), .int (nI xo)]) (n := 4) (Nat.le_of_ble_eq_true rfl)
  rw [lg_entry_eq]
  generalize (lg_sl ([.ref (a 0), .int (nI xo)]) ++ List.replicate (4 - (lg_sl ([.ref (a 0), .int (nI xo)])).length) Slot.unset).toArray = ls at hl ⊢
  have hl : lv_has ls 4 [(0, .ref (a 0)), (1, .int (nI xo))] := hl
  have in0 : ∀ w ∈ u_ws RX0 TX0 5, w ∈ wsX6_shipOrder := by decide +kernel
  have in1 : ∀ w ∈ u_ws RX1 TX1 6, w ∈ wsX6_shipOrder := by decide +kernel
  have in2 : ∀ w ∈ u_ws RX2 TX2 11, w ∈ wsX6_shipOrder := by decide +kernel
  have in6 : ∀ w ∈ u_ws RX6 TX6 9, w ∈ wsX6_shipOrder := by decide +kernel
  refine lv_iconst (v := 0) hx hb dX6_shipOrder_0 (by decide) ?_
  refine lv_istore_n (lv' := [(2, .int 0), (0, .ref (a 0)), (1, .int (nI xo))]) hx hb dX6_shipOrder_1 rfl hl (by decide) rfl (fun ls hl => ?_)
  obtain ⟨H, hH9⟩ : ∃ z : Heap, z = s.heap := ⟨_, rfl⟩
  replace hS : va_S A s.heap H [] := by rw [hH9]; exact va_S.rf
  replace hP : va_P D vwCl (sg_St cI cZ a P q) H := by rw [hH9]; exact hP
  rw [← hH9]
  clear hH9
  generalize ([] : List Loc) = locs at hS ⊢
  obtain ⟨j2, h0j2⟩ : ∃ j : Nat, j = 0 := ⟨_, rfl⟩
  obtain ⟨P2, hP2⟩ : ∃ z9 : sg_Pic, z9 = sg_shipOrder_2 P xo j2 := ⟨_, rfl⟩
  replace hl : lv_has ls 4 [(2, .int (nI j2)), (0, .ref (a 0)), (1, .int (nI xo))] := by rw [h0j2]; exact hl
  replace hP : va_P D vwCl (sg_St cI cZ a P2 q) H := by rw [hP2, h0j2]; exact hP
  replace hD : va_D A (sg_St cI cZ a P2 q) := by rw [hP2, h0j2]; exact hD
  have hjj2 : j2 ≤ sg_cn P 3 := by omega
  clear h0j2
  obtain ⟨n2, hn2⟩ : ∃ n : Nat, sg_cn P 3 < j2 + n := ⟨sg_cn P 3 + 1, by omega⟩
  revert hP
  revert hD
  revert hS
  revert hl
  revert hn2
  revert hjj2
  revert hP2
  revert ls
  revert locs
  revert H
  revert P2
  revert j2
  induction n2 with
  | zero =>
    intro j2 P2 H locs ls hP2 hjj2 hn2 hl hS hD hP
    exact absurd hn2 (by omega)
  | succ n2 ih2 =>
    intro j2 P2 H locs ls hP2 hjj2 hn2 hl hS hD hP
    refine lv_iload_n hx hb dX6_shipOrder_2 rfl (lv_at hl 0 rfl) ?_
    refine lv_aload_n hx hb dX6_shipOrder_3 rfl (lv_at hl 1 rfl) ?_
    refine va_get (D := D) (ci := 6) (v := .ref (a 4)) (C := RX6) (T := TX6) (N := 9) hx hb hts in6 hown hK hP 0 rfl rfl 4 (by decide) (hts (.fieldLink RX6 35 "Granary$Stock" "lots" "LGranary$Lots;") (by decide +kernel)) (fun _ h9 => h9) rfl dX6_shipOrder_4 ?_
    refine va_get (D := D) (ci := 1) (v := .int (P2 0 3)) (C := RX1) (T := TX1) (N := 6) hx hb hts in1 hown hK hP 4 rfl rfl 0 (by decide) (hts (.fieldLink RX6 148 "Granary$Lots" "count" "I") (by decide +kernel)) (fun _ h9 => h9) rfl dX6_shipOrder_7 ?_
    have hkP2 : sg_K P2 P := by rw [hP2]; exact sg_shipOrder_2_K P xo j2
    have hB2 : ((P2 0 3) : Int32) = nI (sg_cn P 3) := ((hkP2.e 3).trans hw.e3)
    refine lv_icmp_ge (tgt := 50) hx hb dX6_shipOrder_10 (by decide) (fun c_1 => ?_) (fun c_1 => ?_)
    · have hE2 : j2 = sg_cn P 3 := sg_eq hB2 c_1 hjj2 (by omega)
      clear ih2 hn2
      subst hE2
      subst hP2
      refine lv_aload_n hx hb dX6_shipOrder_50 rfl (lv_at hl 1 rfl) ?_
      refine va_get (D := D) (ci := 6) (v := .ref (a 5)) (C := RX6) (T := TX6) (N := 9) hx hb hts in6 hown hK hP 0 rfl rfl 5 (by decide) (hts (.fieldLink RX6 42 "Granary$Stock" "orders" "LGranary$Orders;") (by decide +kernel)) (fun _ h9 => h9) rfl dX6_shipOrder_51 ?_
      refine va_get (D := D) (ci := 2) (v := .ref (a 57)) (C := RX2) (T := TX2) (N := 11) hx hb hts in2 hown hK hP 5 rfl rfl 8 (by decide) (hts (.fieldLink RX6 189 "Granary$Orders" "state" "[I") (by decide +kernel)) (fun _ h9 => h9) rfl dX6_shipOrder_54 ?_
      refine lv_iload_n hx hb dX6_shipOrder_57 rfl (lv_at hl 2 rfl) ?_
      refine lv_iconst (v := 1) hx hb dX6_shipOrder_58 (by decide) ?_
      refine sg_iast hx hb hK hP hD hS 30 0 rfl rfl (j := xo) rfl (by omega) (Nat.le_of_ble_eq_true rfl) dX6_shipOrder_59 (fun H locs hP hD hS => ?_)
      replace hP : va_P D vwCl (sg_St cI cZ a (sg_up (sg_shipOrder_2 P xo (sg_cn P 3)) 57 xo 1) q) H := hP
      replace hD : va_D A (sg_St cI cZ a (sg_up (sg_shipOrder_2 P xo (sg_cn P 3)) 57 xo 1) q) := hD
      refine lv_aload_n hx hb dX6_shipOrder_60 rfl (lv_at hl 1 rfl) ?_
      refine va_get (D := D) (ci := 6) (v := .ref (a 5)) (C := RX6) (T := TX6) (N := 9) hx hb hts in6 hown hK hP 0 rfl rfl 5 (by decide) (hts (.fieldLink RX6 42 "Granary$Stock" "orders" "LGranary$Orders;") (by decide +kernel)) (fun _ h9 => h9) rfl dX6_shipOrder_61 ?_
      refine va_get (D := D) (ci := 2) (v := .ref (a 58)) (C := RX2) (T := TX2) (N := 11) hx hb hts in2 hown hK hP 5 rfl rfl 9 (by decide) (hts (.fieldLink RX6 198 "Granary$Orders" "shipDay" "[I") (by decide +kernel)) (fun _ h9 => h9) rfl dX6_shipOrder_64 ?_
      refine lv_iload_n hx hb dX6_shipOrder_67 rfl (lv_at hl 2 rfl) ?_
      refine lv_aload_n hx hb dX6_shipOrder_68 rfl (lv_at hl 1 rfl) ?_
      refine va_get (D := D) (ci := 6) (v := .int ((sg_up (sg_shipOrder_2 P xo (sg_cn P 3)) 57 xo 1) 0 0)) (C := RX6) (T := TX6) (N := 9) hx hb hts in6 hown hK hP 0 rfl rfl 0 (by decide) (hts (.fieldLink RX6 60 "Granary$Stock" "day" "I") (by decide +kernel)) (fun _ h9 => h9) rfl dX6_shipOrder_69 ?_
      refine lv_toi (y := (sg_shipOrder_2 P xo (sg_cn P 3)) 0 0) rfl ?_
      refine sg_iast hx hb hK hP hD hS 31 0 rfl rfl (j := xo) rfl (by omega) (Nat.le_of_ble_eq_true rfl) dX6_shipOrder_72 (fun H locs hP hD hS => ?_)
      replace hP : va_P D vwCl (sg_St cI cZ a (sg_up (sg_up (sg_shipOrder_2 P xo (sg_cn P 3)) 57 xo 1) 58 xo ((sg_shipOrder_2 P xo (sg_cn P 3)) 0 0)) q) H := hP
      replace hD : va_D A (sg_St cI cZ a (sg_up (sg_up (sg_shipOrder_2 P xo (sg_cn P 3)) 57 xo 1) 58 xo ((sg_shipOrder_2 P xo (sg_cn P 3)) 0 0)) q) := hD
      refine lv_aload_n hx hb dX6_shipOrder_73 rfl (lv_at hl 1 rfl) ?_
      refine va_get (D := D) (ci := 6) (v := .ref (a 5)) (C := RX6) (T := TX6) (N := 9) hx hb hts in6 hown hK hP 0 rfl rfl 5 (by decide) (hts (.fieldLink RX6 42 "Granary$Stock" "orders" "LGranary$Orders;") (by decide +kernel)) (fun _ h9 => h9) rfl dX6_shipOrder_74 ?_
      refine va_get (D := D) (ci := 2) (v := .ref (a 50)) (C := RX2) (T := TX2) (N := 11) hx hb hts in2 hown hK hP 5 rfl rfl 1 (by decide) (hts (.fieldLink RX6 167 "Granary$Orders" "item" "[I") (by decide +kernel)) (fun _ h9 => h9) rfl dX6_shipOrder_77 ?_
      refine lv_iload_n hx hb dX6_shipOrder_80 rfl (lv_at hl 2 rfl) ?_
      refine sg_iald hx hb hK hP 23 0 rfl rfl (j := xo) rfl (by omega) (Nat.le_of_ble_eq_true rfl) dX6_shipOrder_81 ?_
      refine lv_toi (y := (sg_shipOrder_2 P xo (sg_cn P 3)) 50 xo) rfl ?_
      refine lv_istore_n (lv' := [(2, .int ((sg_shipOrder_2 P xo (sg_cn P 3)) 50 xo)), (0, .ref (a 0)), (1, .int (nI xo))]) hx hb dX6_shipOrder_82 rfl hl (by decide) rfl (fun ls hl => ?_)
      refine lv_aload_n hx hb dX6_shipOrder_83 rfl (lv_at hl 1 rfl) ?_
      refine va_get (D := D) (ci := 6) (v := .ref (a 5)) (C := RX6) (T := TX6) (N := 9) hx hb hts in6 hown hK hP 0 rfl rfl 5 (by decide) (hts (.fieldLink RX6 42 "Granary$Stock" "orders" "LGranary$Orders;") (by decide +kernel)) (fun _ h9 => h9) rfl dX6_shipOrder_84 ?_
      refine va_get (D := D) (ci := 2) (v := .ref (a 52)) (C := RX2) (T := TX2) (N := 11) hx hb hts in2 hown hK hP 5 rfl rfl 3 (by decide) (hts (.fieldLink RX6 201 "Granary$Orders" "units" "[I") (by decide +kernel)) (fun _ h9 => h9) rfl dX6_shipOrder_87 ?_
      refine lv_iload_n hx hb dX6_shipOrder_90 rfl (lv_at hl 2 rfl) ?_
      refine sg_iald hx hb hK hP 25 0 rfl rfl (j := xo) rfl (by omega) (Nat.le_of_ble_eq_true rfl) dX6_shipOrder_91 ?_
      refine lv_toi (y := (sg_shipOrder_2 P xo (sg_cn P 3)) 52 xo) rfl ?_
      refine lv_iconst (v := 2) hx hb dX6_shipOrder_92 (by decide) ?_
      refine lv_imul hx hb dX6_shipOrder_93 ?_
      refine lv_aload_n hx hb dX6_shipOrder_94 rfl (lv_at hl 1 rfl) ?_
      refine va_get (D := D) (ci := 6) (v := .ref (a 1)) (C := RX6) (T := TX6) (N := 9) hx hb hts in6 hown hK hP 0 rfl rfl 1 (by decide) (hts (.fieldLink RX6 12 "Granary$Stock" "items" "LGranary$Items;") (by decide +kernel)) (fun _ h9 => h9) rfl dX6_shipOrder_95 ?_
      refine lv_iload_n hx hb dX6_shipOrder_98 rfl (lv_at hl 0 rfl) ?_
      have hPc := hP.sub (ws' := [(a 1, .inr (0, [.int ((sg_up (sg_up (sg_shipOrder_2 P xo (sg_cn P 3)) 57 xo 1) 58 xo ((sg_shipOrder_2 P xo (sg_cn P 3)) 0 0)) 0 1), .ref (a 10), .ref (a 11), .ref (a 12), .ref (a 13)])), (a 11, .inl (cI, 6, .inl ((sg_up (sg_up (sg_shipOrder_2 P xo (sg_cn P 3)) 57 xo 1) 58 xo ((sg_shipOrder_2 P xo (sg_cn P 3)) 0 0)) 11)))]) [1, 8] rfl
      have hDc := hD.sub (ws' := [(a 1, .inr (0, [.int ((sg_up (sg_up (sg_shipOrder_2 P xo (sg_cn P 3)) 57 xo 1) 58 xo ((sg_shipOrder_2 P xo (sg_cn P 3)) 0 0)) 0 1), .ref (a 10), .ref (a 11), .ref (a 12), .ref (a 13)])), (a 11, .inl (cI, 6, .inl ((sg_up (sg_up (sg_shipOrder_2 P xo (sg_cn P 3)) 57 xo 1) 58 xo ((sg_shipOrder_2 P xo (sg_cn P 3)) 0 0)) 11)))]) [1, 8] (by decide) rfl
      refine vp_callSi (W.runV (As := [.int ((sg_shipOrder_2 P xo (sg_cn P 3)) 50 xo)]) (rest := [.int (((sg_shipOrder_2 P xo (sg_cn P 3)) 52 xo) * 2)]) ⟨hx, hb, hml, hown, hts⟩ (c_priceOf l D cI cZ cJ lo H.size a (sg_up (sg_up (sg_shipOrder_2 P xo (sg_cn P 3)) 57 xo 1) 58 xo ((sg_shipOrder_2 P xo (sg_cn P 3)) 0 0)) ((sg_shipOrder_2 P xo (sg_cn P 3)) 50 xo) (hkP2.W hw)) (cwV 1 hts gX6_shipOrder_X0_priceOf rfl rfl rfl (by decide +kernel) ⟨(Nat.le_of_ble_eq_true rfl), (Nat.le_of_ble_eq_true rfl)⟩) ⟨Pre.blind, va_recv hK hP (ci := 0) (q0 := 1) rfl rfl, Pre.mk hPc (hDc.weaken (fun _ _ _ h => hAlo _ h)) hC hS hAlo⟩ rfl rfl hl.1 rfl (lv_room (Nat.le_of_ble_eq_true rfl)) dX6_shipOrder_99 ⟨(Nat.le_of_ble_eq_true rfl), (Nat.le_of_ble_eq_true rfl)⟩) (fun r_2 e_3 => ?_)
      clear hPc hDc
      have e_3 : sg_priceOf (sg_up (sg_up (sg_shipOrder_2 P xo (sg_cn P 3)) 57 xo 1) 58 xo ((sg_shipOrder_2 P xo (sg_cn P 3)) 0 0)) ((sg_shipOrder_2 P xo (sg_cn P 3)) 50 xo) = r_2 := Eq.symm e_3
      subst e_3
      refine lv_imul hx hb dX6_shipOrder_102 ?_
      refine lv_istore_n (lv' := [(3, .int ((((sg_shipOrder_2 P xo (sg_cn P 3)) 52 xo) * 2) * (sg_priceOf (sg_up (sg_up (sg_shipOrder_2 P xo (sg_cn P 3)) 57 xo 1) 58 xo ((sg_shipOrder_2 P xo (sg_cn P 3)) 0 0)) ((sg_shipOrder_2 P xo (sg_cn P 3)) 50 xo)))), (2, .int ((sg_shipOrder_2 P xo (sg_cn P 3)) 50 xo)), (0, .ref (a 0)), (1, .int (nI xo))]) hx hb dX6_shipOrder_103 rfl hl (by decide) rfl (fun ls hl => ?_)
      refine lv_aload_n hx hb dX6_shipOrder_104 rfl (lv_at hl 2 rfl) ?_
      refine va_get (D := D) (ci := 6) (v := .ref (a 70)) (C := RX6) (T := TX6) (N := 9) hx hb hts in6 hown hK hP 0 rfl rfl 7 (by decide) (hts (.fieldLink RX6 53 "Granary$Stock" "account" "[I") (by decide +kernel)) (fun _ h9 => h9) rfl dX6_shipOrder_105 ?_
      refine lv_iconst (v := 4) hx hb dX6_shipOrder_108 (by decide) ?_
      refine lv_dup2_11 hx hb dX6_shipOrder_109 rfl rfl ?_
      refine sg_iald hx hb hK hP 39 0 rfl rfl (j := 4) (by decide) (Nat.le_of_ble_eq_true rfl) (Nat.le_of_ble_eq_true rfl) dX6_shipOrder_110 ?_
      refine lv_toi (y := (sg_shipOrder_2 P xo (sg_cn P 3)) 70 4) rfl ?_
      refine lv_iload_n hx hb dX6_shipOrder_111 rfl (lv_at hl 0 rfl) ?_
      refine lv_iadd hx hb dX6_shipOrder_112 ?_
      refine sg_iast hx hb hK hP hD hS 39 0 rfl rfl (j := 4) (by decide) (Nat.le_of_ble_eq_true rfl) (Nat.le_of_ble_eq_true rfl) dX6_shipOrder_113 (fun H locs hP hD hS => ?_)
      replace hP : va_P D vwCl (sg_St cI cZ a (sg_up (sg_up (sg_up (sg_shipOrder_2 P xo (sg_cn P 3)) 57 xo 1) 58 xo ((sg_shipOrder_2 P xo (sg_cn P 3)) 0 0)) 70 4 (((sg_shipOrder_2 P xo (sg_cn P 3)) 70 4) + ((((sg_shipOrder_2 P xo (sg_cn P 3)) 52 xo) * 2) * (sg_priceOf (sg_up (sg_up (sg_shipOrder_2 P xo (sg_cn P 3)) 57 xo 1) 58 xo ((sg_shipOrder_2 P xo (sg_cn P 3)) 0 0)) ((sg_shipOrder_2 P xo (sg_cn P 3)) 50 xo))))) q) H := hP
      replace hD : va_D A (sg_St cI cZ a (sg_up (sg_up (sg_up (sg_shipOrder_2 P xo (sg_cn P 3)) 57 xo 1) 58 xo ((sg_shipOrder_2 P xo (sg_cn P 3)) 0 0)) 70 4 (((sg_shipOrder_2 P xo (sg_cn P 3)) 70 4) + ((((sg_shipOrder_2 P xo (sg_cn P 3)) 52 xo) * 2) * (sg_priceOf (sg_up (sg_up (sg_shipOrder_2 P xo (sg_cn P 3)) 57 xo 1) 58 xo ((sg_shipOrder_2 P xo (sg_cn P 3)) 0 0)) ((sg_shipOrder_2 P xo (sg_cn P 3)) 50 xo))))) q) := hD
      refine lv_aload_n hx hb dX6_shipOrder_114 rfl (lv_at hl 2 rfl) ?_
      refine va_get (D := D) (ci := 6) (v := .ref (a 1)) (C := RX6) (T := TX6) (N := 9) hx hb hts in6 hown hK hP 0 rfl rfl 1 (by decide) (hts (.fieldLink RX6 12 "Granary$Stock" "items" "LGranary$Items;") (by decide +kernel)) (fun _ h9 => h9) rfl dX6_shipOrder_115 ?_
      refine lv_iload_n hx hb dX6_shipOrder_118 rfl (lv_at hl 1 rfl) ?_
      have hPc := hP.sub (ws' := [(a 1, .inr (0, [.int ((sg_up (sg_up (sg_up (sg_shipOrder_2 P xo (sg_cn P 3)) 57 xo 1) 58 xo ((sg_shipOrder_2 P xo (sg_cn P 3)) 0 0)) 70 4 (((sg_shipOrder_2 P xo (sg_cn P 3)) 70 4) + ((((sg_shipOrder_2 P xo (sg_cn P 3)) 52 xo) * 2) * (sg_priceOf (sg_up (sg_up (sg_shipOrder_2 P xo (sg_cn P 3)) 57 xo 1) 58 xo ((sg_shipOrder_2 P xo (sg_cn P 3)) 0 0)) ((sg_shipOrder_2 P xo (sg_cn P 3)) 50 xo))))) 0 1), .ref (a 10), .ref (a 11), .ref (a 12), .ref (a 13)]))]) [1] rfl
      have hDc := hD.sub (ws' := [(a 1, .inr (0, [.int ((sg_up (sg_up (sg_up (sg_shipOrder_2 P xo (sg_cn P 3)) 57 xo 1) 58 xo ((sg_shipOrder_2 P xo (sg_cn P 3)) 0 0)) 70 4 (((sg_shipOrder_2 P xo (sg_cn P 3)) 70 4) + ((((sg_shipOrder_2 P xo (sg_cn P 3)) 52 xo) * 2) * (sg_priceOf (sg_up (sg_up (sg_shipOrder_2 P xo (sg_cn P 3)) 57 xo 1) 58 xo ((sg_shipOrder_2 P xo (sg_cn P 3)) 0 0)) ((sg_shipOrder_2 P xo (sg_cn P 3)) 50 xo))))) 0 1), .ref (a 10), .ref (a 11), .ref (a 12), .ref (a 13)]))]) [1] (by decide) rfl
      refine vp_callSi (W.runV (As := [.int ((sg_shipOrder_2 P xo (sg_cn P 3)) 50 xo)]) (rest := []) ⟨hx, hb, hml, hown, hts⟩ (c_X0_has l D cI cZ cJ lo H.size a (sg_up (sg_up (sg_up (sg_shipOrder_2 P xo (sg_cn P 3)) 57 xo 1) 58 xo ((sg_shipOrder_2 P xo (sg_cn P 3)) 0 0)) 70 4 (((sg_shipOrder_2 P xo (sg_cn P 3)) 70 4) + ((((sg_shipOrder_2 P xo (sg_cn P 3)) 52 xo) * 2) * (sg_priceOf (sg_up (sg_up (sg_shipOrder_2 P xo (sg_cn P 3)) 57 xo 1) 58 xo ((sg_shipOrder_2 P xo (sg_cn P 3)) 0 0)) ((sg_shipOrder_2 P xo (sg_cn P 3)) 50 xo))))) ((sg_shipOrder_2 P xo (sg_cn P 3)) 50 xo)) (cwV 1 hts gX6_shipOrder_X0_has rfl rfl rfl (by decide +kernel) ⟨(Nat.le_of_ble_eq_true rfl), (Nat.le_of_ble_eq_true rfl)⟩) ⟨Pre.blind, va_recv hK hP (ci := 0) (q0 := 1) rfl rfl, Pre.mk hPc (hDc.weaken (fun _ _ _ h => hAlo _ h)) hC hS hAlo⟩ rfl rfl hl.1 rfl (lv_room (Nat.le_of_ble_eq_true rfl)) dX6_shipOrder_119 ⟨(Nat.le_of_ble_eq_true rfl), (Nat.le_of_ble_eq_true rfl)⟩) (fun r_4 e_5 => ?_)
      clear hPc hDc
      have e_5 : sg_X0_has (sg_up (sg_up (sg_up (sg_shipOrder_2 P xo (sg_cn P 3)) 57 xo 1) 58 xo ((sg_shipOrder_2 P xo (sg_cn P 3)) 0 0)) 70 4 (((sg_shipOrder_2 P xo (sg_cn P 3)) 70 4) + ((((sg_shipOrder_2 P xo (sg_cn P 3)) 52 xo) * 2) * (sg_priceOf (sg_up (sg_up (sg_shipOrder_2 P xo (sg_cn P 3)) 57 xo 1) 58 xo ((sg_shipOrder_2 P xo (sg_cn P 3)) 0 0)) ((sg_shipOrder_2 P xo (sg_cn P 3)) 50 xo))))) ((sg_shipOrder_2 P xo (sg_cn P 3)) 50 xo) = r_4 := Eq.symm e_5
      subst e_5
      refine lv_if_eq (tgt := 138) hx hb dX6_shipOrder_122 (by decide) (fun c_6 => ?_) (fun c_6 => ?_)
      · refine W.widen (k := 0) (n := 0) (by omega) (by omega) ?_
        have e9 : sg_shipOrder P xo = sg_up (sg_up (sg_up (sg_shipOrder_2 P xo (sg_cn P 3)) 57 xo 1) 58 xo ((sg_shipOrder_2 P xo (sg_cn P 3)) 0 0)) 70 4 (((sg_shipOrder_2 P xo (sg_cn P 3)) 70 4) + ((((sg_shipOrder_2 P xo (sg_cn P 3)) 52 xo) * 2) * (sg_priceOf (sg_up (sg_up (sg_shipOrder_2 P xo (sg_cn P 3)) 57 xo 1) 58 xo ((sg_shipOrder_2 P xo (sg_cn P 3)) 0 0)) ((sg_shipOrder_2 P xo (sg_cn P 3)) 50 xo)))) := by rw [sg_shipOrder, if_pos c_6]
        have hP9 : va_P D vwCl (sg_St cI cZ a (sg_shipOrder P xo) q) H := by rw [e9]; exact hP
        have hD9 : va_D A (sg_St cI cZ a (sg_shipOrder P xo) q) := by rw [e9]; exact hD
        exact W.vret hx hb hr (fun t ht hW => ⟨⟨(), rfl, trivial, by rw [ht]; exact hP9, hD9⟩, hS.F ht⟩) hS.2.2 dX6_shipOrder_138
      · obtain ⟨e_7, le_7⟩ := sg_hasI (P := sg_up (sg_up (sg_up (sg_shipOrder_2 P xo (sg_cn P 3)) 57 xo 1) 58 xo ((sg_shipOrder_2 P xo (sg_cn P 3)) 0 0)) 70 4 (((sg_shipOrder_2 P xo (sg_cn P 3)) 70 4) + ((((sg_shipOrder_2 P xo (sg_cn P 3)) 52 xo) * 2) * (sg_priceOf (sg_up (sg_up (sg_shipOrder_2 P xo (sg_cn P 3)) 57 xo 1) 58 xo ((sg_shipOrder_2 P xo (sg_cn P 3)) 0 0)) ((sg_shipOrder_2 P xo (sg_cn P 3)) 50 xo))))) (hkP2.W hw) c_6
        have le_7 : Int32.toNatClampNeg ((sg_shipOrder_2 P xo (sg_cn P 3)) 50 xo) < 6 := Nat.lt_of_lt_of_le le_7 ((hkP2.W hw)).n1
        have e_7 : ((sg_shipOrder_2 P xo (sg_cn P 3)) 50 xo : Int32) = nI (Int32.toNatClampNeg ((sg_shipOrder_2 P xo (sg_cn P 3)) 50 xo)) := e_7
        replace hl : lv_has ls 4 [(3, .int ((((sg_shipOrder_2 P xo (sg_cn P 3)) 52 xo) * 2) * (sg_priceOf (sg_up (sg_up (sg_shipOrder_2 P xo (sg_cn P 3)) 57 xo 1) 58 xo ((sg_shipOrder_2 P xo (sg_cn P 3)) 0 0)) ((sg_shipOrder_2 P xo (sg_cn P 3)) 50 xo)))), (2, .int (nI (Int32.toNatClampNeg ((sg_shipOrder_2 P xo (sg_cn P 3)) 50 xo)))), (0, .ref (a 0)), (1, .int (nI xo))] := by rw [← e_7]; exact hl
        refine lv_aload_n hx hb dX6_shipOrder_125 rfl (lv_at hl 2 rfl) ?_
        refine va_get (D := D) (ci := 6) (v := .ref (a 1)) (C := RX6) (T := TX6) (N := 9) hx hb hts in6 hown hK hP 0 rfl rfl 1 (by decide) (hts (.fieldLink RX6 12 "Granary$Stock" "items" "LGranary$Items;") (by decide +kernel)) (fun _ h9 => h9) rfl dX6_shipOrder_126 ?_
        refine va_get (D := D) (ci := 0) (v := .ref (a 13)) (C := RX0) (T := TX0) (N := 5) hx hb hts in0 hown hK hP 1 rfl rfl 4 (by decide) (hts (.fieldLink RX6 206 "Granary$Items" "earned" "[I") (by decide +kernel)) (fun _ h9 => h9) rfl dX6_shipOrder_129 ?_
        refine lv_iload_n hx hb dX6_shipOrder_132 rfl (lv_at hl 1 rfl) ?_
        refine lv_dup2_11 hx hb dX6_shipOrder_133 rfl rfl ?_
        refine sg_iald hx hb hK hP 10 0 rfl rfl (j := Int32.toNatClampNeg ((sg_shipOrder_2 P xo (sg_cn P 3)) 50 xo)) rfl (by omega) (Nat.le_of_ble_eq_true rfl) dX6_shipOrder_134 ?_
        refine lv_toi (y := (sg_shipOrder_2 P xo (sg_cn P 3)) 13 (Int32.toNatClampNeg ((sg_shipOrder_2 P xo (sg_cn P 3)) 50 xo))) rfl ?_
        refine lv_iload_n hx hb dX6_shipOrder_135 rfl (lv_at hl 0 rfl) ?_
        refine lv_iadd hx hb dX6_shipOrder_136 ?_
        refine sg_iast hx hb hK hP hD hS 10 0 rfl rfl (j := Int32.toNatClampNeg ((sg_shipOrder_2 P xo (sg_cn P 3)) 50 xo)) rfl (by omega) (Nat.le_of_ble_eq_true rfl) dX6_shipOrder_137 (fun H locs hP hD hS => ?_)
        replace hP : va_P D vwCl (sg_St cI cZ a (sg_up (sg_up (sg_up (sg_up (sg_shipOrder_2 P xo (sg_cn P 3)) 57 xo 1) 58 xo ((sg_shipOrder_2 P xo (sg_cn P 3)) 0 0)) 70 4 (((sg_shipOrder_2 P xo (sg_cn P 3)) 70 4) + ((((sg_shipOrder_2 P xo (sg_cn P 3)) 52 xo) * 2) * (sg_priceOf (sg_up (sg_up (sg_shipOrder_2 P xo (sg_cn P 3)) 57 xo 1) 58 xo ((sg_shipOrder_2 P xo (sg_cn P 3)) 0 0)) ((sg_shipOrder_2 P xo (sg_cn P 3)) 50 xo))))) 13 (Int32.toNatClampNeg ((sg_shipOrder_2 P xo (sg_cn P 3)) 50 xo)) (((sg_shipOrder_2 P xo (sg_cn P 3)) 13 (Int32.toNatClampNeg ((sg_shipOrder_2 P xo (sg_cn P 3)) 50 xo))) + ((((sg_shipOrder_2 P xo (sg_cn P 3)) 52 xo) * 2) * (sg_priceOf (sg_up (sg_up (sg_shipOrder_2 P xo (sg_cn P 3)) 57 xo 1) 58 xo ((sg_shipOrder_2 P xo (sg_cn P 3)) 0 0)) ((sg_shipOrder_2 P xo (sg_cn P 3)) 50 xo))))) q) H := hP
        replace hD : va_D A (sg_St cI cZ a (sg_up (sg_up (sg_up (sg_up (sg_shipOrder_2 P xo (sg_cn P 3)) 57 xo 1) 58 xo ((sg_shipOrder_2 P xo (sg_cn P 3)) 0 0)) 70 4 (((sg_shipOrder_2 P xo (sg_cn P 3)) 70 4) + ((((sg_shipOrder_2 P xo (sg_cn P 3)) 52 xo) * 2) * (sg_priceOf (sg_up (sg_up (sg_shipOrder_2 P xo (sg_cn P 3)) 57 xo 1) 58 xo ((sg_shipOrder_2 P xo (sg_cn P 3)) 0 0)) ((sg_shipOrder_2 P xo (sg_cn P 3)) 50 xo))))) 13 (Int32.toNatClampNeg ((sg_shipOrder_2 P xo (sg_cn P 3)) 50 xo)) (((sg_shipOrder_2 P xo (sg_cn P 3)) 13 (Int32.toNatClampNeg ((sg_shipOrder_2 P xo (sg_cn P 3)) 50 xo))) + ((((sg_shipOrder_2 P xo (sg_cn P 3)) 52 xo) * 2) * (sg_priceOf (sg_up (sg_up (sg_shipOrder_2 P xo (sg_cn P 3)) 57 xo 1) 58 xo ((sg_shipOrder_2 P xo (sg_cn P 3)) 0 0)) ((sg_shipOrder_2 P xo (sg_cn P 3)) 50 xo))))) q) := hD
        refine W.widen (k := 0) (n := 0) (by omega) (by omega) ?_
        have e9 : sg_shipOrder P xo = sg_up (sg_up (sg_up (sg_up (sg_shipOrder_2 P xo (sg_cn P 3)) 57 xo 1) 58 xo ((sg_shipOrder_2 P xo (sg_cn P 3)) 0 0)) 70 4 (((sg_shipOrder_2 P xo (sg_cn P 3)) 70 4) + ((((sg_shipOrder_2 P xo (sg_cn P 3)) 52 xo) * 2) * (sg_priceOf (sg_up (sg_up (sg_shipOrder_2 P xo (sg_cn P 3)) 57 xo 1) 58 xo ((sg_shipOrder_2 P xo (sg_cn P 3)) 0 0)) ((sg_shipOrder_2 P xo (sg_cn P 3)) 50 xo))))) 13 (Int32.toNatClampNeg ((sg_shipOrder_2 P xo (sg_cn P 3)) 50 xo)) (((sg_shipOrder_2 P xo (sg_cn P 3)) 13 (Int32.toNatClampNeg ((sg_shipOrder_2 P xo (sg_cn P 3)) 50 xo))) + ((((sg_shipOrder_2 P xo (sg_cn P 3)) 52 xo) * 2) * (sg_priceOf (sg_up (sg_up (sg_shipOrder_2 P xo (sg_cn P 3)) 57 xo 1) 58 xo ((sg_shipOrder_2 P xo (sg_cn P 3)) 0 0)) ((sg_shipOrder_2 P xo (sg_cn P 3)) 50 xo)))) := by rw [sg_shipOrder, if_neg c_6]
        have hP9 : va_P D vwCl (sg_St cI cZ a (sg_shipOrder P xo) q) H := by rw [e9]; exact hP
        have hD9 : va_D A (sg_St cI cZ a (sg_shipOrder P xo) q) := by rw [e9]; exact hD
        exact W.vret hx hb hr (fun t ht hW => ⟨⟨(), rfl, trivial, by rw [ht]; exact hP9, hD9⟩, hS.F ht⟩) hS.2.2 dX6_shipOrder_138
    · have hL2 : j2 < sg_cn P 3 := sg_lt hB2 c_1 (by omega)
      refine lv_aload_n hx hb dX6_shipOrder_13 rfl (lv_at hl 1 rfl) ?_
      refine va_get (D := D) (ci := 6) (v := .ref (a 5)) (C := RX6) (T := TX6) (N := 9) hx hb hts in6 hown hK hP 0 rfl rfl 5 (by decide) (hts (.fieldLink RX6 42 "Granary$Stock" "orders" "LGranary$Orders;") (by decide +kernel)) (fun _ h9 => h9) rfl dX6_shipOrder_14 ?_
      refine lv_iload_n hx hb dX6_shipOrder_17 rfl (lv_at hl 2 rfl) ?_
      refine lv_iload_n hx hb dX6_shipOrder_18 rfl (lv_at hl 0 rfl) ?_
      have hPc := hP.sub (ws' := [(a 5, .inr (2, [.int (P2 0 4), .ref (a 50), .ref (a 51), .ref (a 52), .ref (a 53), .ref (a 54), .ref (a 55), .ref (a 56), .ref (a 57), .ref (a 58), .ref (a 59)])), (a 59, .inl (cI, 12000, .inl (P2 59)))]) [5, 32] rfl
      have hDc := hD.sub (ws' := [(a 5, .inr (2, [.int (P2 0 4), .ref (a 50), .ref (a 51), .ref (a 52), .ref (a 53), .ref (a 54), .ref (a 55), .ref (a 56), .ref (a 57), .ref (a 58), .ref (a 59)])), (a 59, .inl (cI, 12000, .inl (P2 59)))]) [5, 32] (by decide) rfl
      refine vp_callSi (W.runV (As := [.int (nI xo), .int (nI j2)]) (rest := []) ⟨hx, hb, hml, hown, hts⟩ (c_heldOf l D cI cZ cJ lo H.size a P2 xo j2 (by omega) (by omega)) (cwV 2 hts gX6_shipOrder_X2_heldOf rfl rfl rfl (by decide +kernel) ⟨(Nat.le_of_ble_eq_true rfl), (Nat.le_of_ble_eq_true rfl)⟩) ⟨Pre.blind, va_recv hK hP (ci := 2) (q0 := 5) rfl rfl, Pre.mk hPc (hDc.weaken (fun _ _ _ h => hAlo _ h)) hC hS hAlo⟩ rfl rfl hl.1 rfl (lv_room (Nat.le_of_ble_eq_true rfl)) dX6_shipOrder_19 ⟨(Nat.le_of_ble_eq_true rfl), (Nat.le_of_ble_eq_true rfl)⟩) (fun r_8 e_9 => ?_)
      clear hPc hDc
      have e_9 : sg_heldOf P2 xo j2 = r_8 := Eq.symm e_9
      subst e_9
      refine lv_istore_n (lv' := [(3, .int (sg_heldOf P2 xo j2)), (2, .int (nI j2)), (0, .ref (a 0)), (1, .int (nI xo))]) hx hb dX6_shipOrder_22 rfl hl (by decide) rfl (fun ls hl => ?_)
      refine lv_aload_n hx hb dX6_shipOrder_23 rfl (lv_at hl 2 rfl) ?_
      refine lv_iload_n hx hb dX6_shipOrder_24 rfl (lv_at hl 3 rfl) ?_
      refine lv_iload_n hx hb dX6_shipOrder_25 rfl (lv_at hl 1 rfl) ?_
      refine lv_iload_n hx hb dX6_shipOrder_26 rfl (lv_at hl 0 rfl) ?_
      refine lv_ineg hx hb dX6_shipOrder_27 ?_
      have hPc : va_P D vwCl (sg_St cI cZ a P2 q) H := hP
      have hDc : va_D A (sg_St cI cZ a P2 q) := hD
      have hFc := va_free (wc := (sg_St cI cZ a P2 q)) hD hS hA [0, 1, 2, 3, 4, 5, 6, 7, 8, 9, 10, 11, 12, 13, 14, 15, 16, 17, 18, 19, 20, 21, 22, 23, 24, 25, 26, 27, 28, 29, 30, 31, 32, 33, 34, 35, 36, 37, 38, 39, 40] rfl
      refine va_callv (va_runV (As := [.int (nI xo), .int (nI j2), .int (-(sg_heldOf P2 xo j2))]) (rest := []) ⟨hx, hb, hml, hown, hts⟩ (c_hold l D cI cZ cJ lo H.size a P2 q xo j2 (-(sg_heldOf P2 xo j2)) (by omega) (by omega)) (cwV 3 hts gX6_shipOrder_X6_hold rfl rfl rfl (by decide +kernel) ⟨(Nat.le_of_ble_eq_true rfl), (Nat.le_of_ble_eq_true rfl)⟩) ⟨Pre.blind, va_recv hK hP (ci := 6) (q0 := 0) rfl rfl, Pre.mk hPc (hDc.weaken (fun _ _ _ h => hAlo _ h)) hC hS hAlo⟩ rfl rfl hl.1 rfl (lv_room (Nat.le_of_ble_eq_true rfl)) dX6_shipOrder_28 ⟨(Nat.le_of_ble_eq_true rfl), (Nat.le_of_ble_eq_true rfl)⟩) hS (fun q _ h => hFc q h) hFc (fun u t H1 locs1 ht hvm e_10 hB hz1 hk1 hS1 => ?_)
      have hS := hS1
      obtain ⟨hP1, hD1⟩ := hB
      rw [ht] at hP1
      obtain ⟨hP, hD⟩ := va_join (wr := []) (w1 := (sg_St cI cZ a (sg_hold P2 xo j2 (-(sg_heldOf P2 xo j2))) q)) hP hD [0, 1, 2, 3, 4, 5, 6, 7, 8, 9, 10, 11, 12, 13, 14, 15, 16, 17, 18, 19, 20, 21, 22, 23, 24, 25, 26, 27, 28, 29, 30, 31, 32, 33, 34, 35, 36, 37, 38, 39, 40] [] rfl rfl (by decide) (by decide) hk1 hFc hP1 hD1
      have e_10 : True := e_10
      clear hFc hPc hDc ht hvm hz1 hk1 hS1 hP1 hD1
      generalize H1 = H at hP hS ⊢
      replace hP : va_P D vwCl (sg_St cI cZ a (sg_hold P2 xo j2 (-(sg_heldOf P2 xo j2))) q) H := hP
      replace hD : va_D A (sg_St cI cZ a (sg_hold P2 xo j2 (-(sg_heldOf P2 xo j2))) q) := hD
      refine lv_aload_n hx hb dX6_shipOrder_31 rfl (lv_at hl 2 rfl) ?_
      refine va_get (D := D) (ci := 6) (v := .ref (a 4)) (C := RX6) (T := TX6) (N := 9) hx hb hts in6 hown hK hP 0 rfl rfl 4 (by decide) (hts (.fieldLink RX6 35 "Granary$Stock" "lots" "LGranary$Lots;") (by decide +kernel)) (fun _ h9 => h9) rfl dX6_shipOrder_32 ?_
      refine va_get (D := D) (ci := 1) (v := .ref (a 42)) (C := RX1) (T := TX1) (N := 6) hx hb hts in1 hown hK hP 4 rfl rfl 3 (by decide) (hts (.fieldLink RX6 195 "Granary$Lots" "units" "[I") (by decide +kernel)) (fun _ h9 => h9) rfl dX6_shipOrder_35 ?_
      refine lv_iload_n hx hb dX6_shipOrder_38 rfl (lv_at hl 1 rfl) ?_
      refine lv_dup2_11 hx hb dX6_shipOrder_39 rfl rfl ?_
      refine sg_iald hx hb hK hP 20 0 rfl rfl (j := j2) rfl (by omega) (Nat.le_of_ble_eq_true rfl) dX6_shipOrder_40 ?_
      refine lv_toi (y := (sg_hold P2 xo j2 (-(sg_heldOf P2 xo j2))) 42 j2) rfl ?_
      refine lv_iload_n hx hb dX6_shipOrder_41 rfl (lv_at hl 0 rfl) ?_
      refine lv_isub hx hb dX6_shipOrder_42 ?_
      refine sg_iast hx hb hK hP hD hS 20 0 rfl rfl (j := j2) rfl (by omega) (Nat.le_of_ble_eq_true rfl) dX6_shipOrder_43 (fun H locs hP hD hS => ?_)
      replace hP : va_P D vwCl (sg_St cI cZ a (sg_up (sg_hold P2 xo j2 (-(sg_heldOf P2 xo j2))) 42 j2 (((sg_hold P2 xo j2 (-(sg_heldOf P2 xo j2))) 42 j2) - (sg_heldOf P2 xo j2))) q) H := hP
      replace hD : va_D A (sg_St cI cZ a (sg_up (sg_hold P2 xo j2 (-(sg_heldOf P2 xo j2))) 42 j2 (((sg_hold P2 xo j2 (-(sg_heldOf P2 xo j2))) 42 j2) - (sg_heldOf P2 xo j2))) q) := hD
      refine lv_iinc (v := nI (j2 + 1)) (lv' := [(2, .int (nI (j2 + 1))), (3, .int (sg_heldOf P2 xo j2)), (0, .ref (a 0)), (1, .int (nI xo))]) hx hb dX6_shipOrder_44 hl (k := 1) rfl (nI_1 j2) (by decide) rfl (fun ls hl => ?_)
      refine lv_goto (tgt := 2) hx hb dX6_shipOrder_47 (by decide) ?_
      have hl8 := hl; have hS8 := hS; have hD8 := hD; have hP8 := hP
      subst hP2
      exact ih2 (j2 + 1) (sg_up (sg_hold (sg_shipOrder_2 P xo j2) xo j2 (-(sg_heldOf (sg_shipOrder_2 P xo j2) xo j2))) 42 j2 (((sg_hold (sg_shipOrder_2 P xo j2) xo j2 (-(sg_heldOf (sg_shipOrder_2 P xo j2) xo j2))) 42 j2) - (sg_heldOf (sg_shipOrder_2 P xo j2) xo j2))) _ _ _ rfl (by omega) (by omega) (lv_sub hl8 [0, 2, 3] rfl) hS8 hD8 hP8

def sg_ladd_r (P : sg_Pic) (x : Int32) (y : Int32) (z : Int32) (v : Int32) : Int32 := (if (P 0 3) < 200 then (((P 0 3) + 1) - 1) else (-1))

def sg_ladd (P : sg_Pic) (x : Int32) (y : Int32) (z : Int32) (v : Int32) : sg_Pic := (if (P 0 3) < 200 then (sg_up (sg_up (sg_up (sg_up (sg_up (sg_up P 40 (sg_cn P 3) x) 41 (sg_cn P 3) y) 42 (sg_cn P 3) z) 43 (sg_cn P 3) 0) 44 (sg_cn P 3) v) 0 3 ((P 0 3) + 1)) else P)

set_option maxHeartbeats 4000000 in
set_option maxRecDepth 100000 in
/-- X1_add -/
theorem c_ladd (l : Launch) (D : va_G) (cI cZ cJ : ClassId) (lo sz : Nat) (a : Nat → Nat) (P : sg_Pic) (q : Nat → Int32) (x : Int32) (y : Int32) (z : Int32) (v : Int32) (hw : sg_W P) : Met l yX1_add wsX1_add ({ frames := 0, cells := 0, slots := 0, locals := 0 }) (Pre lo D cI cZ cJ [.ref (a 4), .int x, .int y, .int z, .int v] sz (sg_St cI cZ a P q)) (va_Qi (fun (r : Int32) (_ : Unit) => r = sg_ladd_r P x y z v) (fun _ t => va_P D vwCl (sg_St cI cZ a (sg_ladd P x y z v) q) t.heap ∧ va_D (va_A (sg_St cI cZ a P q) sz) (sg_St cI cZ a (sg_ladd P x y z v) q)) (va_A (sg_St cI cZ a P q) sz)) 0 0 (va_A (sg_St cI cZ a P q) sz) := by
  refine Met.ofW (cc := cX1_add) (maxL := 5) (ret := (some .int)) (by decide) rfl ?_
  intro p e s m args below meth c s₁ B hml hv
  obtain ⟨rfl, hsz, hP, hD0, hC⟩ := hv
  have hx := B.exec
  have hb := B.bytes
  have hr := B.returns
  have hts := atoms_spec (ws := wsX1_add) B.pre
  have hown : s.vm.findClass RX1 = some m.cls := findClass_of_methodNamed B.named
  have hlocks := B.notSynchronized
  subst hsz
  have hn1 : sg_cn P 1 ≤ 6 := hw.n1
  have hn2 : sg_cn P 2 ≤ 5 := hw.n2
  have hn3 : sg_cn P 3 ≤ 200 := hw.n3
  have hn4 : sg_cn P 4 ≤ 60 := hw.n4
  have hn5 : sg_cn P 5 ≤ 90 := hw.n5
  have hK := hC.K
  have hD := hD0.self (sz := s.heap.size)
  have hAlo0 := va_A_lo hD0 hC.1
  generalize hAe : va_A (sg_St cI cZ a P q) s.heap.size = A at hD hAlo0 ⊢
  have hA : ∀ q : Nat, s.heap.size ≤ q → A q := fun q h => by rw [← hAe]; exact Or.inr h
  have hAlo : ∀ q, A q → lo ≤ q := hAlo0
  have hS : va_S A s.heap s.heap [] := va_S.rf
  have hP : va_P D vwCl (sg_St cI cZ a P q) s.heap := hP
  have hl := lv_entry ([.ref (a 4), .int x, .int y, .int z, .int v]) (n := 5) (Nat.le_of_ble_eq_true rfl)
  rw [lg_entry_eq]
  generalize (lg_sl ([.ref (a 4), .int x, .int y, .int z, .int v]) ++ List.replicate (5 - (lg_sl ([.ref (a 4), .int x, .int y, .int z, .int v])).length) Slot.unset).toArray = ls at hl ⊢
  have hl : lv_has ls 5 [(0, .ref (a 4)), (1, .int x), (2, .int y), (3, .int z), (4, .int v)] := hl
  have in1 : ∀ w ∈ u_ws RX1 TX1 6, w ∈ wsX1_add := by decide +kernel
  refine lv_aload_n hx hb dX1_add_0 rfl (lv_at hl 0 rfl) ?_
  refine va_get (D := D) (ci := 1) (v := .int (P 0 3)) (C := RX1) (T := TX1) (N := 6) hx hb hts in1 hown hK hP 4 rfl rfl 0 (by decide) (hts (.fieldLink RX1 27 "Granary$Lots" "count" "I") (by decide +kernel)) (fun _ h9 => h9) rfl dX1_add_1 ?_
  refine lv_sipush (v := 200) hx hb dX1_add_4 (by decide) ?_
  refine lv_icmp_lt (tgt := 12) hx hb dX1_add_7 (by decide) (fun c_1 => ?_) (fun c_1 => ?_)
  · have l9 : sg_cn P 3 < 200 := sg_ltl (M := 200) hw.e3 (by omega) (by decide) c_1
    refine lv_aload_n hx hb dX1_add_12 rfl (lv_at hl 0 rfl) ?_
    refine va_get (D := D) (ci := 1) (v := .ref (a 40)) (C := RX1) (T := TX1) (N := 6) hx hb hts in1 hown hK hP 4 rfl rfl 1 (by decide) (hts (.fieldLink RX1 9 "Granary$Lots" "item" "[I") (by decide +kernel)) (fun _ h9 => h9) rfl dX1_add_13 ?_
    refine lv_aload_n hx hb dX1_add_16 rfl (lv_at hl 0 rfl) ?_
    refine va_get (D := D) (ci := 1) (v := .int (P 0 3)) (C := RX1) (T := TX1) (N := 6) hx hb hts in1 hown hK hP 4 rfl rfl 0 (by decide) (hts (.fieldLink RX1 27 "Granary$Lots" "count" "I") (by decide +kernel)) (fun _ h9 => h9) rfl dX1_add_17 ?_
    refine lv_iload_n hx hb dX1_add_20 rfl (lv_at hl 1 rfl) ?_
    refine sg_iast hx hb hK hP hD hS 18 0 rfl rfl (j := sg_cn P 3) hw.e3 (by omega) (Nat.le_of_ble_eq_true rfl) dX1_add_21 (fun H locs hP hD hS => ?_)
    replace hP : va_P D vwCl (sg_St cI cZ a (sg_up P 40 (sg_cn P 3) x) q) H := hP
    replace hD : va_D A (sg_St cI cZ a (sg_up P 40 (sg_cn P 3) x) q) := hD
    refine lv_aload_n hx hb dX1_add_22 rfl (lv_at hl 0 rfl) ?_
    refine va_get (D := D) (ci := 1) (v := .ref (a 41)) (C := RX1) (T := TX1) (N := 6) hx hb hts in1 hown hK hP 4 rfl rfl 2 (by decide) (hts (.fieldLink RX1 15 "Granary$Lots" "site" "[I") (by decide +kernel)) (fun _ h9 => h9) rfl dX1_add_23 ?_
    refine lv_aload_n hx hb dX1_add_26 rfl (lv_at hl 0 rfl) ?_
    refine va_get (D := D) (ci := 1) (v := .int ((sg_up P 40 (sg_cn P 3) x) 0 3)) (C := RX1) (T := TX1) (N := 6) hx hb hts in1 hown hK hP 4 rfl rfl 0 (by decide) (hts (.fieldLink RX1 27 "Granary$Lots" "count" "I") (by decide +kernel)) (fun _ h9 => h9) rfl dX1_add_27 ?_
    refine lv_toi (y := P 0 3) rfl ?_
    refine lv_iload_n hx hb dX1_add_30 rfl (lv_at hl 2 rfl) ?_
    refine sg_iast hx hb hK hP hD hS 19 0 rfl rfl (j := sg_cn P 3) hw.e3 (by omega) (Nat.le_of_ble_eq_true rfl) dX1_add_31 (fun H locs hP hD hS => ?_)
    replace hP : va_P D vwCl (sg_St cI cZ a (sg_up (sg_up P 40 (sg_cn P 3) x) 41 (sg_cn P 3) y) q) H := hP
    replace hD : va_D A (sg_St cI cZ a (sg_up (sg_up P 40 (sg_cn P 3) x) 41 (sg_cn P 3) y) q) := hD
    refine lv_aload_n hx hb dX1_add_32 rfl (lv_at hl 0 rfl) ?_
    refine va_get (D := D) (ci := 1) (v := .ref (a 42)) (C := RX1) (T := TX1) (N := 6) hx hb hts in1 hown hK hP 4 rfl rfl 3 (by decide) (hts (.fieldLink RX1 18 "Granary$Lots" "units" "[I") (by decide +kernel)) (fun _ h9 => h9) rfl dX1_add_33 ?_
    refine lv_aload_n hx hb dX1_add_36 rfl (lv_at hl 0 rfl) ?_
    refine va_get (D := D) (ci := 1) (v := .int ((sg_up (sg_up P 40 (sg_cn P 3) x) 41 (sg_cn P 3) y) 0 3)) (C := RX1) (T := TX1) (N := 6) hx hb hts in1 hown hK hP 4 rfl rfl 0 (by decide) (hts (.fieldLink RX1 27 "Granary$Lots" "count" "I") (by decide +kernel)) (fun _ h9 => h9) rfl dX1_add_37 ?_
    refine lv_toi (y := P 0 3) rfl ?_
    refine lv_iload_n hx hb dX1_add_40 rfl (lv_at hl 3 rfl) ?_
    refine sg_iast hx hb hK hP hD hS 20 0 rfl rfl (j := sg_cn P 3) hw.e3 (by omega) (Nat.le_of_ble_eq_true rfl) dX1_add_41 (fun H locs hP hD hS => ?_)
    replace hP : va_P D vwCl (sg_St cI cZ a (sg_up (sg_up (sg_up P 40 (sg_cn P 3) x) 41 (sg_cn P 3) y) 42 (sg_cn P 3) z) q) H := hP
    replace hD : va_D A (sg_St cI cZ a (sg_up (sg_up (sg_up P 40 (sg_cn P 3) x) 41 (sg_cn P 3) y) 42 (sg_cn P 3) z) q) := hD
    refine lv_aload_n hx hb dX1_add_42 rfl (lv_at hl 0 rfl) ?_
    refine va_get (D := D) (ci := 1) (v := .ref (a 43)) (C := RX1) (T := TX1) (N := 6) hx hb hts in1 hown hK hP 4 rfl rfl 4 (by decide) (hts (.fieldLink RX1 21 "Granary$Lots" "reserved" "[I") (by decide +kernel)) (fun _ h9 => h9) rfl dX1_add_43 ?_
    refine lv_aload_n hx hb dX1_add_46 rfl (lv_at hl 0 rfl) ?_
    refine va_get (D := D) (ci := 1) (v := .int ((sg_up (sg_up (sg_up P 40 (sg_cn P 3) x) 41 (sg_cn P 3) y) 42 (sg_cn P 3) z) 0 3)) (C := RX1) (T := TX1) (N := 6) hx hb hts in1 hown hK hP 4 rfl rfl 0 (by decide) (hts (.fieldLink RX1 27 "Granary$Lots" "count" "I") (by decide +kernel)) (fun _ h9 => h9) rfl dX1_add_47 ?_
    refine lv_toi (y := P 0 3) rfl ?_
    refine lv_iconst (v := 0) hx hb dX1_add_50 (by decide) ?_
    refine sg_iast hx hb hK hP hD hS 21 0 rfl rfl (j := sg_cn P 3) hw.e3 (by omega) (Nat.le_of_ble_eq_true rfl) dX1_add_51 (fun H locs hP hD hS => ?_)
    replace hP : va_P D vwCl (sg_St cI cZ a (sg_up (sg_up (sg_up (sg_up P 40 (sg_cn P 3) x) 41 (sg_cn P 3) y) 42 (sg_cn P 3) z) 43 (sg_cn P 3) 0) q) H := hP
    replace hD : va_D A (sg_St cI cZ a (sg_up (sg_up (sg_up (sg_up P 40 (sg_cn P 3) x) 41 (sg_cn P 3) y) 42 (sg_cn P 3) z) 43 (sg_cn P 3) 0) q) := hD
    refine lv_aload_n hx hb dX1_add_52 rfl (lv_at hl 0 rfl) ?_
    refine va_get (D := D) (ci := 1) (v := .ref (a 44)) (C := RX1) (T := TX1) (N := 6) hx hb hts in1 hown hK hP 4 rfl rfl 5 (by decide) (hts (.fieldLink RX1 24 "Granary$Lots" "last" "[I") (by decide +kernel)) (fun _ h9 => h9) rfl dX1_add_53 ?_
    refine lv_aload_n hx hb dX1_add_56 rfl (lv_at hl 0 rfl) ?_
    refine va_get (D := D) (ci := 1) (v := .int ((sg_up (sg_up (sg_up (sg_up P 40 (sg_cn P 3) x) 41 (sg_cn P 3) y) 42 (sg_cn P 3) z) 43 (sg_cn P 3) 0) 0 3)) (C := RX1) (T := TX1) (N := 6) hx hb hts in1 hown hK hP 4 rfl rfl 0 (by decide) (hts (.fieldLink RX1 27 "Granary$Lots" "count" "I") (by decide +kernel)) (fun _ h9 => h9) rfl dX1_add_57 ?_
    refine lv_toi (y := P 0 3) rfl ?_
    refine lv_iload hx hb dX1_add_60 (lv_at hl 4 rfl) ?_
    refine sg_iast hx hb hK hP hD hS 22 0 rfl rfl (j := sg_cn P 3) hw.e3 (by omega) (Nat.le_of_ble_eq_true rfl) dX1_add_62 (fun H locs hP hD hS => ?_)
    replace hP : va_P D vwCl (sg_St cI cZ a (sg_up (sg_up (sg_up (sg_up (sg_up P 40 (sg_cn P 3) x) 41 (sg_cn P 3) y) 42 (sg_cn P 3) z) 43 (sg_cn P 3) 0) 44 (sg_cn P 3) v) q) H := hP
    replace hD : va_D A (sg_St cI cZ a (sg_up (sg_up (sg_up (sg_up (sg_up P 40 (sg_cn P 3) x) 41 (sg_cn P 3) y) 42 (sg_cn P 3) z) 43 (sg_cn P 3) 0) 44 (sg_cn P 3) v) q) := hD
    refine lv_aload_n hx hb dX1_add_63 rfl (lv_at hl 0 rfl) ?_
    refine lv_dup hx hb dX1_add_64 rfl ?_
    refine va_get (D := D) (ci := 1) (v := .int ((sg_up (sg_up (sg_up (sg_up (sg_up P 40 (sg_cn P 3) x) 41 (sg_cn P 3) y) 42 (sg_cn P 3) z) 43 (sg_cn P 3) 0) 44 (sg_cn P 3) v) 0 3)) (C := RX1) (T := TX1) (N := 6) hx hb hts in1 hown hK hP 4 rfl rfl 0 (by decide) (hts (.fieldLink RX1 27 "Granary$Lots" "count" "I") (by decide +kernel)) (fun _ h9 => h9) rfl dX1_add_65 ?_
    refine lv_toi (y := P 0 3) rfl ?_
    refine lv_iconst (v := 1) hx hb dX1_add_68 (by decide) ?_
    refine lv_iadd hx hb dX1_add_69 ?_
    refine va_put (D := D) (ci := 1) (v := .int ((P 0 3) + 1)) (ty := .int) (C := RX1) (T := TX1) (N := 6) hx hb hts in1 tyX1 tyX1_ok nmX1 hown hK hP hD hS 4 rfl rfl 0 (by decide) (hts (.fieldLink RX1 27 "Granary$Lots" "count" "I") (by decide +kernel)) (fun _ h9 => h9) rfl (by decide +kernel) rfl rfl (Nat.le_of_ble_eq_true rfl) dX1_add_70 (fun H locs hP hD hS => ?_)
    replace hP : va_P D vwCl (sg_St cI cZ a (sg_up (sg_up (sg_up (sg_up (sg_up (sg_up P 40 (sg_cn P 3) x) 41 (sg_cn P 3) y) 42 (sg_cn P 3) z) 43 (sg_cn P 3) 0) 44 (sg_cn P 3) v) 0 3 ((P 0 3) + 1)) q) H := hP
    replace hD : va_D A (sg_St cI cZ a (sg_up (sg_up (sg_up (sg_up (sg_up (sg_up P 40 (sg_cn P 3) x) 41 (sg_cn P 3) y) 42 (sg_cn P 3) z) 43 (sg_cn P 3) 0) 44 (sg_cn P 3) v) 0 3 ((P 0 3) + 1)) q) := hD
    refine lv_aload_n hx hb dX1_add_73 rfl (lv_at hl 0 rfl) ?_
    refine va_get (D := D) (ci := 1) (v := .int ((sg_up (sg_up (sg_up (sg_up (sg_up (sg_up P 40 (sg_cn P 3) x) 41 (sg_cn P 3) y) 42 (sg_cn P 3) z) 43 (sg_cn P 3) 0) 44 (sg_cn P 3) v) 0 3 ((P 0 3) + 1)) 0 3)) (C := RX1) (T := TX1) (N := 6) hx hb hts in1 hown hK hP 4 rfl rfl 0 (by decide) (hts (.fieldLink RX1 27 "Granary$Lots" "count" "I") (by decide +kernel)) (fun _ h9 => h9) rfl dX1_add_74 ?_
    refine lv_toi (y := (P 0 3) + 1) rfl ?_
    refine lv_iconst (v := 1) hx hb dX1_add_77 (by decide) ?_
    refine lv_isub hx hb dX1_add_78 ?_
    refine W.widen (k := 0) (n := 0) (by omega) (by omega) ?_
    have e9 : sg_ladd P x y z v = sg_up (sg_up (sg_up (sg_up (sg_up (sg_up P 40 (sg_cn P 3) x) 41 (sg_cn P 3) y) 42 (sg_cn P 3) z) 43 (sg_cn P 3) 0) 44 (sg_cn P 3) v) 0 3 ((P 0 3) + 1) := by rw [sg_ladd, if_pos c_1]
    have hP9 : va_P D vwCl (sg_St cI cZ a (sg_ladd P x y z v) q) H := by rw [e9]; exact hP
    have hD9 : va_D A (sg_St cI cZ a (sg_ladd P x y z v) q) := by rw [e9]; exact hD
    exact W.iret (v := (((P 0 3) + 1) - 1)) hx hb hr (fun t ht hW => ⟨⟨(((P 0 3) + 1) - 1), (), rfl, (show (((P 0 3) + 1) - 1 : Int32) = sg_ladd_r P x y z v from by rw [sg_ladd_r, if_pos c_1]), by rw [ht]; exact hP9, hD9⟩, hS.F ht⟩) hS.2.2 dX1_add_79
  · refine lv_iconst (v := (-1)) hx hb dX1_add_10 (by decide) ?_
    refine W.widen (k := 0) (n := 0) (by omega) (by omega) ?_
    have e9 : sg_ladd P x y z v = P := by rw [sg_ladd, if_neg c_1]
    have hP9 : va_P D vwCl (sg_St cI cZ a (sg_ladd P x y z v) q) s.heap := by rw [e9]; exact hP
    have hD9 : va_D A (sg_St cI cZ a (sg_ladd P x y z v) q) := by rw [e9]; exact hD
    exact W.iret (v := (-1)) hx hb hr (fun t ht hW => ⟨⟨(-1), (), rfl, (show ((-1) : Int32) = sg_ladd_r P x y z v from by rw [sg_ladd_r, if_neg c_1]), by rw [ht]; exact hP9, hD9⟩, hS.F ht⟩) hS.2.2 dX1_add_11

theorem sg_ladd_K (P : sg_Pic) (x y z v : Int32) : sg_K3 (sg_ladd P x y z v) P := by
  unfold sg_ladd
  split
  · rename_i c
    refine ⟨fun k hk => ?_, rfl, fun hw => ?_⟩
    · show sg_up P 0 3 ((P 0 3) + 1) 0 k = P 0 k
      exact sg_ne_n 0 k hk
    · exact hw.up3 (sg_ltl (M := 200) hw.e3 (Nat.lt_of_le_of_lt hw.n3 (by decide)) (by decide) c)
  · exact sg_K3.of ⟨rfl, rfl⟩
theorem sg_ladd_W {P : sg_Pic} {x y z v : Int32} (hw : sg_W P) : sg_W (sg_ladd P x y z v) := (sg_ladd_K P x y z v).W hw

def sg_tadd (P : sg_Pic) (x : Int32) (y : Int32) (z : Int32) (v : Int32) (x5 : Int32) : sg_Pic := (if (sg_full P) = 0 then (sg_up (sg_up (sg_up (sg_up (sg_up (sg_up (sg_up P 60 (sg_cn P 5) x) 61 (sg_cn P 5) y) 62 (sg_cn P 5) z) 63 (sg_cn P 5) v) 64 (sg_cn P 5) x5) 65 (sg_cn P 5) 1) 0 5 ((P 0 5) + 1)) else P)

set_option maxHeartbeats 4000000 in
set_option maxRecDepth 100000 in
/-- X7_add -/
theorem c_tadd (l : Launch) (D : va_G) (cI cZ cJ : ClassId) (lo sz : Nat) (a : Nat → Nat) (P : sg_Pic) (q : Nat → Int32) (x : Int32) (y : Int32) (z : Int32) (v : Int32) (x5 : Int32) (hw : sg_W P) : Met l yX7_add wsX7_add ({ frames := 1, cells := 0, slots := 0, locals := 20 }) (Pre lo D cI cZ cJ [.ref (a 6), .int x, .int y, .int z, .int v, .int x5] sz (sg_St cI cZ a P q)) (va_Qv (fun _ : Unit => True) (fun _ t => va_P D vwCl (sg_St cI cZ a (sg_tadd P x y z v x5) q) t.heap ∧ va_D (va_A (sg_St cI cZ a P q) sz) (sg_St cI cZ a (sg_tadd P x y z v x5) q)) (va_A (sg_St cI cZ a P q) sz)) 0 0 (va_A (sg_St cI cZ a P q) sz) := by
  refine Met.ofW (cc := cX7_add) (maxL := 6) (ret := none) (by decide) rfl ?_
  intro p e s m args below meth c s₁ B hml hv
  obtain ⟨rfl, hsz, hP, hD0, hC⟩ := hv
  have hx := B.exec
  have hb := B.bytes
  have hr := B.returns
  have hts := atoms_spec (ws := wsX7_add) B.pre
  have hown : s.vm.findClass RX7 = some m.cls := findClass_of_methodNamed B.named
  have hlocks := B.notSynchronized
  subst hsz
  have hn1 : sg_cn P 1 ≤ 6 := hw.n1
  have hn2 : sg_cn P 2 ≤ 5 := hw.n2
  have hn3 : sg_cn P 3 ≤ 200 := hw.n3
  have hn4 : sg_cn P 4 ≤ 60 := hw.n4
  have hn5 : sg_cn P 5 ≤ 90 := hw.n5
  have hK := hC.K
  have hD := hD0.self (sz := s.heap.size)
  have hAlo0 := va_A_lo hD0 hC.1
  generalize hAe : va_A (sg_St cI cZ a P q) s.heap.size = A at hD hAlo0 ⊢
  have hA : ∀ q : Nat, s.heap.size ≤ q → A q := fun q h => by rw [← hAe]; exact Or.inr h
  have hAlo : ∀ q, A q → lo ≤ q := hAlo0
  have hS : va_S A s.heap s.heap [] := va_S.rf
  have hP : va_P D vwCl (sg_St cI cZ a P q) s.heap := hP
  have hl := lv_entry ([.ref (a 6), .int x, .int y, .int z, .int v, .int x5]) (n := 6) (Nat.le_of_ble_eq_true rfl)
  rw [lg_entry_eq]
  generalize (lg_sl ([.ref (a 6), .int x, .int y, .int z, .int v, .int x5]) ++ List.replicate (6 - (lg_sl ([.ref (a 6), .int x, .int y, .int z, .int v, .int x5])).length) Slot.unset).toArray = ls at hl ⊢
  have hl : lv_has ls 6 [(0, .ref (a 6)), (1, .int x), (2, .int y), (3, .int z), (4, .int v), (5, .int x5)] := hl
  have in7 : ∀ w ∈ u_ws RX7 TX7 7, w ∈ wsX7_add := by decide +kernel
  refine lv_aload_n hx hb dX7_add_0 rfl (lv_at hl 0 rfl) ?_
  have hPc := hP.sub (ws' := [(a 6, .inr (7, [.int (P 0 5), .ref (a 60), .ref (a 61), .ref (a 62), .ref (a 63), .ref (a 64), .ref (a 65)]))]) [6] rfl
  have hDc := hD.sub (ws' := [(a 6, .inr (7, [.int (P 0 5), .ref (a 60), .ref (a 61), .ref (a 62), .ref (a 63), .ref (a 64), .ref (a 65)]))]) [6] (by decide) rfl
  refine vp_callSi (W.runV (As := []) (rest := []) ⟨hx, hb, hml, hown, hts⟩ (c_full l D cI cZ cJ lo s.heap.size a P) (cwV 0 hts gX7_add_X7_full rfl rfl rfl (by decide +kernel) ⟨(Nat.le_of_ble_eq_true rfl), (Nat.le_of_ble_eq_true rfl)⟩) ⟨Pre.blind, va_recv hK hP (ci := 7) (q0 := 6) rfl rfl, Pre.mk hPc (hDc.weaken (fun _ _ _ h => hAlo _ h)) hC hS hAlo⟩ rfl rfl hl.1 rfl (lv_room (Nat.le_of_ble_eq_true rfl)) dX7_add_1 ⟨(Nat.le_of_ble_eq_true rfl), (Nat.le_of_ble_eq_true rfl)⟩) (fun r_1 e_2 => ?_)
  clear hPc hDc
  have e_2 : sg_full P = r_1 := Eq.symm e_2
  subst e_2
  refine lv_if_eq (tgt := 8) hx hb dX7_add_4 (by decide) (fun c_3 => ?_) (fun c_3 => ?_)
  · have l9 : sg_cn P 5 < 90 := sg_full_lt hw c_3
    refine lv_aload_n hx hb dX7_add_8 rfl (lv_at hl 0 rfl) ?_
    refine va_get (D := D) (ci := 7) (v := .ref (a 60)) (C := RX7) (T := TX7) (N := 7) hx hb hts in7 hown hK hP 6 rfl rfl 1 (by decide) (hts (.fieldLink RX7 9 "Granary$Transports" "item" "[I") (by decide +kernel)) (fun _ h9 => h9) rfl dX7_add_9 ?_
    refine lv_aload_n hx hb dX7_add_12 rfl (lv_at hl 0 rfl) ?_
    refine va_get (D := D) (ci := 7) (v := .int (P 0 5)) (C := RX7) (T := TX7) (N := 7) hx hb hts in7 hown hK hP 6 rfl rfl 0 (by decide) (hts (.fieldLink RX7 30 "Granary$Transports" "count" "I") (by decide +kernel)) (fun _ h9 => h9) rfl dX7_add_13 ?_
    refine lv_iload_n hx hb dX7_add_16 rfl (lv_at hl 1 rfl) ?_
    refine sg_iast hx hb hK hP hD hS 33 0 rfl rfl (j := sg_cn P 5) hw.e5 (by omega) (Nat.le_of_ble_eq_true rfl) dX7_add_17 (fun H locs hP hD hS => ?_)
    replace hP : va_P D vwCl (sg_St cI cZ a (sg_up P 60 (sg_cn P 5) x) q) H := hP
    replace hD : va_D A (sg_St cI cZ a (sg_up P 60 (sg_cn P 5) x) q) := hD
    refine lv_aload_n hx hb dX7_add_18 rfl (lv_at hl 0 rfl) ?_
    refine va_get (D := D) (ci := 7) (v := .ref (a 61)) (C := RX7) (T := TX7) (N := 7) hx hb hts in7 hown hK hP 6 rfl rfl 2 (by decide) (hts (.fieldLink RX7 15 "Granary$Transports" "site" "[I") (by decide +kernel)) (fun _ h9 => h9) rfl dX7_add_19 ?_
    refine lv_aload_n hx hb dX7_add_22 rfl (lv_at hl 0 rfl) ?_
    refine va_get (D := D) (ci := 7) (v := .int ((sg_up P 60 (sg_cn P 5) x) 0 5)) (C := RX7) (T := TX7) (N := 7) hx hb hts in7 hown hK hP 6 rfl rfl 0 (by decide) (hts (.fieldLink RX7 30 "Granary$Transports" "count" "I") (by decide +kernel)) (fun _ h9 => h9) rfl dX7_add_23 ?_
    refine lv_toi (y := P 0 5) rfl ?_
    refine lv_iload_n hx hb dX7_add_26 rfl (lv_at hl 2 rfl) ?_
    refine sg_iast hx hb hK hP hD hS 34 0 rfl rfl (j := sg_cn P 5) hw.e5 (by omega) (Nat.le_of_ble_eq_true rfl) dX7_add_27 (fun H locs hP hD hS => ?_)
    replace hP : va_P D vwCl (sg_St cI cZ a (sg_up (sg_up P 60 (sg_cn P 5) x) 61 (sg_cn P 5) y) q) H := hP
    replace hD : va_D A (sg_St cI cZ a (sg_up (sg_up P 60 (sg_cn P 5) x) 61 (sg_cn P 5) y) q) := hD
    refine lv_aload_n hx hb dX7_add_28 rfl (lv_at hl 0 rfl) ?_
    refine va_get (D := D) (ci := 7) (v := .ref (a 62)) (C := RX7) (T := TX7) (N := 7) hx hb hts in7 hown hK hP 6 rfl rfl 3 (by decide) (hts (.fieldLink RX7 18 "Granary$Transports" "units" "[I") (by decide +kernel)) (fun _ h9 => h9) rfl dX7_add_29 ?_
    refine lv_aload_n hx hb dX7_add_32 rfl (lv_at hl 0 rfl) ?_
    refine va_get (D := D) (ci := 7) (v := .int ((sg_up (sg_up P 60 (sg_cn P 5) x) 61 (sg_cn P 5) y) 0 5)) (C := RX7) (T := TX7) (N := 7) hx hb hts in7 hown hK hP 6 rfl rfl 0 (by decide) (hts (.fieldLink RX7 30 "Granary$Transports" "count" "I") (by decide +kernel)) (fun _ h9 => h9) rfl dX7_add_33 ?_
    refine lv_toi (y := P 0 5) rfl ?_
    refine lv_iload_n hx hb dX7_add_36 rfl (lv_at hl 3 rfl) ?_
    refine sg_iast hx hb hK hP hD hS 35 0 rfl rfl (j := sg_cn P 5) hw.e5 (by omega) (Nat.le_of_ble_eq_true rfl) dX7_add_37 (fun H locs hP hD hS => ?_)
    replace hP : va_P D vwCl (sg_St cI cZ a (sg_up (sg_up (sg_up P 60 (sg_cn P 5) x) 61 (sg_cn P 5) y) 62 (sg_cn P 5) z) q) H := hP
    replace hD : va_D A (sg_St cI cZ a (sg_up (sg_up (sg_up P 60 (sg_cn P 5) x) 61 (sg_cn P 5) y) 62 (sg_cn P 5) z) q) := hD
    refine lv_aload_n hx hb dX7_add_38 rfl (lv_at hl 0 rfl) ?_
    refine va_get (D := D) (ci := 7) (v := .ref (a 63)) (C := RX7) (T := TX7) (N := 7) hx hb hts in7 hown hK hP 6 rfl rfl 4 (by decide) (hts (.fieldLink RX7 21 "Granary$Transports" "arrival" "[I") (by decide +kernel)) (fun _ h9 => h9) rfl dX7_add_39 ?_
    refine lv_aload_n hx hb dX7_add_42 rfl (lv_at hl 0 rfl) ?_
    refine va_get (D := D) (ci := 7) (v := .int ((sg_up (sg_up (sg_up P 60 (sg_cn P 5) x) 61 (sg_cn P 5) y) 62 (sg_cn P 5) z) 0 5)) (C := RX7) (T := TX7) (N := 7) hx hb hts in7 hown hK hP 6 rfl rfl 0 (by decide) (hts (.fieldLink RX7 30 "Granary$Transports" "count" "I") (by decide +kernel)) (fun _ h9 => h9) rfl dX7_add_43 ?_
    refine lv_toi (y := P 0 5) rfl ?_
    refine lv_iload hx hb dX7_add_46 (lv_at hl 4 rfl) ?_
    refine sg_iast hx hb hK hP hD hS 36 0 rfl rfl (j := sg_cn P 5) hw.e5 (by omega) (Nat.le_of_ble_eq_true rfl) dX7_add_48 (fun H locs hP hD hS => ?_)
    replace hP : va_P D vwCl (sg_St cI cZ a (sg_up (sg_up (sg_up (sg_up P 60 (sg_cn P 5) x) 61 (sg_cn P 5) y) 62 (sg_cn P 5) z) 63 (sg_cn P 5) v) q) H := hP
    replace hD : va_D A (sg_St cI cZ a (sg_up (sg_up (sg_up (sg_up P 60 (sg_cn P 5) x) 61 (sg_cn P 5) y) 62 (sg_cn P 5) z) 63 (sg_cn P 5) v) q) := hD
    refine lv_aload_n hx hb dX7_add_49 rfl (lv_at hl 0 rfl) ?_
    refine va_get (D := D) (ci := 7) (v := .ref (a 64)) (C := RX7) (T := TX7) (N := 7) hx hb hts in7 hown hK hP 6 rfl rfl 5 (by decide) (hts (.fieldLink RX7 24 "Granary$Transports" "last" "[I") (by decide +kernel)) (fun _ h9 => h9) rfl dX7_add_50 ?_
    refine lv_aload_n hx hb dX7_add_53 rfl (lv_at hl 0 rfl) ?_
    refine va_get (D := D) (ci := 7) (v := .int ((sg_up (sg_up (sg_up (sg_up P 60 (sg_cn P 5) x) 61 (sg_cn P 5) y) 62 (sg_cn P 5) z) 63 (sg_cn P 5) v) 0 5)) (C := RX7) (T := TX7) (N := 7) hx hb hts in7 hown hK hP 6 rfl rfl 0 (by decide) (hts (.fieldLink RX7 30 "Granary$Transports" "count" "I") (by decide +kernel)) (fun _ h9 => h9) rfl dX7_add_54 ?_
    refine lv_toi (y := P 0 5) rfl ?_
    refine lv_iload hx hb dX7_add_57 (lv_at hl 5 rfl) ?_
    refine sg_iast hx hb hK hP hD hS 37 0 rfl rfl (j := sg_cn P 5) hw.e5 (by omega) (Nat.le_of_ble_eq_true rfl) dX7_add_59 (fun H locs hP hD hS => ?_)
    replace hP : va_P D vwCl (sg_St cI cZ a (sg_up (sg_up (sg_up (sg_up (sg_up P 60 (sg_cn P 5) x) 61 (sg_cn P 5) y) 62 (sg_cn P 5) z) 63 (sg_cn P 5) v) 64 (sg_cn P 5) x5) q) H := hP
    replace hD : va_D A (sg_St cI cZ a (sg_up (sg_up (sg_up (sg_up (sg_up P 60 (sg_cn P 5) x) 61 (sg_cn P 5) y) 62 (sg_cn P 5) z) 63 (sg_cn P 5) v) 64 (sg_cn P 5) x5) q) := hD
    refine lv_aload_n hx hb dX7_add_60 rfl (lv_at hl 0 rfl) ?_
    refine va_get (D := D) (ci := 7) (v := .ref (a 65)) (C := RX7) (T := TX7) (N := 7) hx hb hts in7 hown hK hP 6 rfl rfl 6 (by decide) (hts (.fieldLink RX7 27 "Granary$Transports" "moving" "[I") (by decide +kernel)) (fun _ h9 => h9) rfl dX7_add_61 ?_
    refine lv_aload_n hx hb dX7_add_64 rfl (lv_at hl 0 rfl) ?_
    refine va_get (D := D) (ci := 7) (v := .int ((sg_up (sg_up (sg_up (sg_up (sg_up P 60 (sg_cn P 5) x) 61 (sg_cn P 5) y) 62 (sg_cn P 5) z) 63 (sg_cn P 5) v) 64 (sg_cn P 5) x5) 0 5)) (C := RX7) (T := TX7) (N := 7) hx hb hts in7 hown hK hP 6 rfl rfl 0 (by decide) (hts (.fieldLink RX7 30 "Granary$Transports" "count" "I") (by decide +kernel)) (fun _ h9 => h9) rfl dX7_add_65 ?_
    refine lv_toi (y := P 0 5) rfl ?_
    refine lv_iconst (v := 1) hx hb dX7_add_68 (by decide) ?_
    refine sg_iast hx hb hK hP hD hS 38 0 rfl rfl (j := sg_cn P 5) hw.e5 (by omega) (Nat.le_of_ble_eq_true rfl) dX7_add_69 (fun H locs hP hD hS => ?_)
    replace hP : va_P D vwCl (sg_St cI cZ a (sg_up (sg_up (sg_up (sg_up (sg_up (sg_up P 60 (sg_cn P 5) x) 61 (sg_cn P 5) y) 62 (sg_cn P 5) z) 63 (sg_cn P 5) v) 64 (sg_cn P 5) x5) 65 (sg_cn P 5) 1) q) H := hP
    replace hD : va_D A (sg_St cI cZ a (sg_up (sg_up (sg_up (sg_up (sg_up (sg_up P 60 (sg_cn P 5) x) 61 (sg_cn P 5) y) 62 (sg_cn P 5) z) 63 (sg_cn P 5) v) 64 (sg_cn P 5) x5) 65 (sg_cn P 5) 1) q) := hD
    refine lv_aload_n hx hb dX7_add_70 rfl (lv_at hl 0 rfl) ?_
    refine lv_dup hx hb dX7_add_71 rfl ?_
    refine va_get (D := D) (ci := 7) (v := .int ((sg_up (sg_up (sg_up (sg_up (sg_up (sg_up P 60 (sg_cn P 5) x) 61 (sg_cn P 5) y) 62 (sg_cn P 5) z) 63 (sg_cn P 5) v) 64 (sg_cn P 5) x5) 65 (sg_cn P 5) 1) 0 5)) (C := RX7) (T := TX7) (N := 7) hx hb hts in7 hown hK hP 6 rfl rfl 0 (by decide) (hts (.fieldLink RX7 30 "Granary$Transports" "count" "I") (by decide +kernel)) (fun _ h9 => h9) rfl dX7_add_72 ?_
    refine lv_toi (y := P 0 5) rfl ?_
    refine lv_iconst (v := 1) hx hb dX7_add_75 (by decide) ?_
    refine lv_iadd hx hb dX7_add_76 ?_
    refine va_put (D := D) (ci := 7) (v := .int ((P 0 5) + 1)) (ty := .int) (C := RX7) (T := TX7) (N := 7) hx hb hts in7 tyX7 tyX7_ok nmX7 hown hK hP hD hS 6 rfl rfl 0 (by decide) (hts (.fieldLink RX7 30 "Granary$Transports" "count" "I") (by decide +kernel)) (fun _ h9 => h9) rfl (by decide +kernel) rfl rfl (Nat.le_of_ble_eq_true rfl) dX7_add_77 (fun H locs hP hD hS => ?_)
    replace hP : va_P D vwCl (sg_St cI cZ a (sg_up (sg_up (sg_up (sg_up (sg_up (sg_up (sg_up P 60 (sg_cn P 5) x) 61 (sg_cn P 5) y) 62 (sg_cn P 5) z) 63 (sg_cn P 5) v) 64 (sg_cn P 5) x5) 65 (sg_cn P 5) 1) 0 5 ((P 0 5) + 1)) q) H := hP
    replace hD : va_D A (sg_St cI cZ a (sg_up (sg_up (sg_up (sg_up (sg_up (sg_up (sg_up P 60 (sg_cn P 5) x) 61 (sg_cn P 5) y) 62 (sg_cn P 5) z) 63 (sg_cn P 5) v) 64 (sg_cn P 5) x5) 65 (sg_cn P 5) 1) 0 5 ((P 0 5) + 1)) q) := hD
    refine W.widen (k := 0) (n := 0) (by omega) (by omega) ?_
    have e9 : sg_tadd P x y z v x5 = sg_up (sg_up (sg_up (sg_up (sg_up (sg_up (sg_up P 60 (sg_cn P 5) x) 61 (sg_cn P 5) y) 62 (sg_cn P 5) z) 63 (sg_cn P 5) v) 64 (sg_cn P 5) x5) 65 (sg_cn P 5) 1) 0 5 ((P 0 5) + 1) := by rw [sg_tadd, if_pos c_3]
    have hP9 : va_P D vwCl (sg_St cI cZ a (sg_tadd P x y z v x5) q) H := by rw [e9]; exact hP
    have hD9 : va_D A (sg_St cI cZ a (sg_tadd P x y z v x5) q) := by rw [e9]; exact hD
    exact W.vret hx hb hr (fun t ht hW => ⟨⟨(), rfl, trivial, by rw [ht]; exact hP9, hD9⟩, hS.F ht⟩) hS.2.2 dX7_add_80
  · refine W.widen (k := 0) (n := 0) (by omega) (by omega) ?_
    have e9 : sg_tadd P x y z v x5 = P := by rw [sg_tadd, if_neg c_3]
    have hP9 : va_P D vwCl (sg_St cI cZ a (sg_tadd P x y z v x5) q) s.heap := by rw [e9]; exact hP
    have hD9 : va_D A (sg_St cI cZ a (sg_tadd P x y z v x5) q) := by rw [e9]; exact hD
    exact W.vret hx hb hr (fun t ht hW => ⟨⟨(), rfl, trivial, by rw [ht]; exact hP9, hD9⟩, hS.F ht⟩) hS.2.2 dX7_add_7

theorem sg_tadd_K (P : sg_Pic) (x y z v x5 : Int32) : sg_K5 (sg_tadd P x y z v x5) P := by
  unfold sg_tadd
  split
  · rename_i c
    refine ⟨fun k hk => ?_, rfl, fun hw => ?_⟩
    · show sg_up P 0 5 ((P 0 5) + 1) 0 k = P 0 k
      exact sg_ne_n 0 k hk
    · exact hw.up5 (sg_full_lt hw c)
  · exact sg_K5.of ⟨rfl, rfl⟩
theorem sg_tadd_W {P : sg_Pic} {x y z v x5 : Int32} (hw : sg_W P) : sg_W (sg_tadd P x y z v x5) := (sg_tadd_K P x y z v x5).W hw
end
