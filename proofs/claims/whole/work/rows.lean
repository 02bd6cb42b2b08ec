section
/-! ===== BEGIN words of one list among another's, by their places ===== -/
theorem goodIn_r {big : List Cond} (ws : List Cond) (ps : List Nat) (hp : ws = ps.filterMap (fun i => big[i]?)) (h : ws.all goodWord = true) : GoodIn big ws := by
  intro w hw
  have h1 := List.all_eq_true.mp h w hw
  rw [hp] at hw
  obtain ⟨i, -, hi⟩ := List.mem_filterMap.mp hw
  have hm : w ∈ big := by first | exact List.mem_of_getElem? hi | exact List.getElem?_mem hi
  exact ⟨hm, good_of_word h1⟩
theorem goodIn_app {big a b : List Cond} (ha : GoodIn big a) (hb : GoodIn big b) : GoodIn big (a ++ b) := fun w h => (List.mem_append.mp h).elim (ha w) (hb w)
theorem goodIn_ca {big a b : List Cond} {c : Cond} (ha : GoodIn big (c :: a)) (hb : GoodIn big b) : GoodIn big (c :: (a ++ b)) := fun w h => (List.mem_cons.mp h).elim (fun e => ha w (List.mem_cons.mpr (Or.inl e))) (fun h => (List.mem_append.mp h).elim (fun h => ha w (List.mem_cons.mpr (Or.inr h))) (hb w))
theorem goodIn_sub {big ws : List Cond} (hm : ∀ w ∈ ws, w ∈ big) (h : ws.all goodWord = true) : GoodIn big ws := fun w hw => ⟨hm w hw, good_of_word (List.all_eq_true.mp h w hw)⟩
/-! ===== END ===== -/

/-! ===== BEGIN exceptions that leave a method, and their catching by the caller (launches without stack traces) ===== -/
section VXA
/-! The laws vx_back, vx_callV, vx_callS, vx_callSW, vx_throw0, vx_throwS follow proofs of the library, with one case more: JvmDerived/Free/Laws.lean (Back.of_free), Shelf42/LK1.lean (callV, callS), Shelf/KitTraced.lean (throwNew0V, throwNewS). -/
/-- where a method has thrown q: the class by its name, the cell, what was written, the world -/
def vx_T (XC : String → State → State → Prop) (st : State) (q : Addr) (t : State) (mc ms : Nat) (free : Addr → Prop) : Prop :=
  ∃ (E : String) (ce : Cell) (L : List Loc), XC E st t ∧ t.heap[q]? = some ce ∧ ce.vm = .none ∧ st.vm.findClass E = some ce.cls ∧ st.WarmedH t.vm ∧ st.sameButNew ({ t with vm := st.vm } : State) L mc ms ∧ ∀ z ∈ L, free z.base
def vx_Q (Qc : Array Value → State → Outcome → State → Prop) (XC : String → State → State → Prop) (mc ms : Nat) (free : Addr → Prop) : Array Value → State → Outcome → State → Prop := fun a st o t =>
  (Qc a st o t ∧ ∃ L, FrameEnd st o t L mc ms ∧ ∀ q ∈ L, free q.base) ∨ ∃ q, o = .threw q ∧ vx_T XC st q t mc ms free
/-- a callee that returns or throws -/
def vx_Met (l : Launch) (y : MethodName) (ws : List Cond) (rm : Room) (Pc : Array Value → State → Prop) (Qc : Array Value → State → Outcome → State → Prop) (XC : String → State → State → Prop) (mc ms : Nat) (free : Addr → Prop) : Prop :=
  MetFree l y (headSpec ws rm) Pc (fun _ _ _ _ _ => True) (vx_Q Qc XC mc ms free)
def vx_Post (XC : String → State → State → Prop) (mc ms : Nat) (free : Addr → Prop) : Pt → Array Value → Addr → Pt → Prop := fun A a q B =>
  ∃ (g : JFrame) (mk : MethodId) (t : State) (L : List Loc) (E : String) (ce : Cell), B.U.heap = t.heap ∧ B.U.vm = t.vm ∧ XC E (A.U.calling g mk a) t ∧ t.heap[q]? = some ce ∧ ce.vm = .none ∧ A.U.vm.findClass E = some ce.cls ∧ B.locs = A.locs ++ L ∧ (∀ z ∈ L, free z.base) ∧ B.cells = A.cells + mc ∧ B.slots = A.slots + ms
def vx_Back (l : Launch) (R : Room) (p : Program) (e : Env) (below : List Frame) (s : State) (sargs : Array Value) (y : MethodName) (len W9 : Nat)
    (Pre : Pt → Array Value → Prop) (Post : Pt → Array Value → Option Value → Pt → Prop) (PostX : Pt → Array Value → Addr → Pt → Prop) : Prop :=
  ∀ (m : MethodId) (meth : Method) (c : Code) (A : Pt) (g : JFrame) (ig : Instr) (mk : MethodId) (a : Array Value),
    Stand p l e R s m sargs below meth c A.U A.locs A.cells A.slots → g.method = m → g.locals.size = c.maxLocals → decode c.code g.pc = .ok (ig, len) →
    2 * g.monitorRoom + (g.stack.map fun v => v.category).sum ≤ W9 → A.U.methodNamed? y = some mk → Pre A a →
    (∃ (v : Option Value) (B : Pt), Stand p l e R s m sargs below meth c B.U B.locs B.cells B.slots ∧ Post A a v B ∧
      Steps p.tables e below (doInvoke e (A.U.setTop g) [] mk a).1 (B.U.setTop { g with pc := g.pc + len, stack := v.toList ++ g.stack })) ∨
    (∃ (q : Addr) (B : Pt), Stand p l e R s m sargs below meth c B.U B.locs B.cells B.slots ∧ PostX A a q B ∧
      Steps p.tables e below (doInvoke e (A.U.setTop g) [] mk a).1 ((B.U.setTop g).pushFrame (.throwing q)))
section Payer
variable {l : Launch} {R : Room} {p : Program} {e : Env} {below : List Frame} {s : State} {sargs : Array Value} {y : MethodName} {len W9 : Nat}
theorem vx_back {ws : List Cond} {rm : Room} {Pc : Array Value → State → Prop} {Qc : Array Value → State → Outcome → State → Prop} {XC : String → State → State → Prop} {mc ms : Nat} {free : Addr → Prop} {bytes : ByteArray} {maxL : Nat} {ret : Option FieldType}
    (hM : vx_Met l y ws rm Pc Qc XC mc ms free) (hblind : FrameBlind Pc) (hrc : rm.cells = mc) (hrs : rm.slots = ms)
    (hframes : rm.frames + 1 ≤ R.frames) (hlocals : W9 + (maxL + 11) + rm.locals ≤ R.locals)
    (hws : ∀ w ∈ ws, ∀ a' U, s.WarmedH U.vm → w.before a' U = true) (hcode : Cond.code y bytes maxL ret ∈ ws) (hinit : ∀ a' U, s.WarmedH U.vm → (Cond.initialized y.cls).before a' U = true) :
    vx_Back l R p e below s sargs y len W9 (PreOf R mc ms Pc) (PostOf Qc mc ms free) (vx_Post XC mc ms free) := by
  intro m meth c A g ig mk a X hg hsize hdg hW hn hp
  have h1 : (headSpec ws rm).pre.before a A.U = true := atoms_intro fun w hw => hws w hw _ _ X.warmed
  have h2 : (Cond.code y bytes maxL ret).before a A.U = true := hws _ hcode _ _ X.warmed
  have h3 : (Cond.initialized y.cls).before a A.U = true := hinit _ _ X.warmed
  have h4 : A.cells + (headSpec ws rm).room.cells ≤ R.cells := by rw [show (headSpec ws rm).room.cells = mc from hrc]; exact hp.1
  have h5 : A.slots + (headSpec ws rm).room.slots ≤ R.slots := by rw [show (headSpec ws rm).room.slots = ms from hrs]; exact hp.2.1
  have hPc : Pc a (A.U.calling g mk a) := hblind _ _ _ _ hp.2.2
  obtain ⟨U, Ls, c0, s0⟩ := A
  dsimp only [Pt.U, Pt.locs, Pt.cells, Pt.slots] at h1 h2 h3 h4 h5 X hn hPc ⊢
  obtain ⟨methY, cY, hmY, hcY, -, hlY, -, -, -, -⟩ := Cond.code_spec hn h2
  obtain ⟨kY, hkY, -⟩ := className_of_methodNamed hn
  have hinitY : kY.init = .initialized := Cond.initialized_spec (findClass_of_methodNamed hn) hkY h3
  have h : At U g.method c below := by rw [hg]; exact X.here
  have hlocals9 : W9 + (maxL + 11) + (headSpec ws rm).room.locals ≤ R.locals := hlocals
  have happ : (headSpec ws rm).appliesLoose y e.platform (U.calling g mk a) = true :=
    Spec.appliesLoose_calling (g := g) h hdg hn hkY hinitY
      (X.room_calling (g := g) (R' := (headSpec ws rm).room) hsize hmY hcY hframes (by rw [hlY]; omega) h4 h5) h1
  obtain ⟨mid, hmid⟩ := h.above
  have hfr : (U.setTop g).frames = (.java g :: mid) ++ below := by rw [State.frames_setTop' g h.top, hmid]; rfl
  obtain ⟨o, s₂, hsteps, -, hend, hq⟩ := Steps.callFree hM p X.admits X.cas X.clock (acts := []) hfr happ hPc trivial
  have hq' : vx_Q Qc XC mc ms free a (U.calling g mk a) o s₂ := hq
  rw [State.frames_setTop' g h.top] at hend
  obtain ⟨g₀, hg0⟩ := Option.isSome_iff_exists.mp h.top
  obtain ⟨r, hr⟩ := State.topJava?_eq_some.mp hg0
  have hr' : (({ U with heap := s₂.heap, slotsUsed := s₂.slotsUsed } : State).setVm s₂.vm).frames = .java g₀ :: r := hr
  rcases hq' with ⟨hqc, L, hfe, hL⟩ | ⟨q, rfl, E, ce, L, hx, hce, hcv, hcl, hW₂, hsm, hL⟩
  · obtain ⟨⟨v, rfl⟩, hW₂, e2, q2, q3, q4, q5, q6⟩ := id hfe
    have e3 : s₂ = ({ (U.calling g mk a).setFrames s₂.frames with heap := s₂.heap, slotsUsed := s₂.slotsUsed } : State).setVm s₂.vm := by
      have : s₂ = ({ s₂ with vm := (U.calling g mk a).vm } : State).setVm s₂.vm := rfl
      rw [e2] at this
      exact this
    obtain ⟨c₂, i₂, len₂, hc₂, hd₂, hf₂⟩ := hend
    have hW' : U.WarmedH s₂.vm := hW₂
    have hcc : c₂ = c := by
      have h1 : s₂.code? g.method = U.code? g.method := by
        rw [State.code?_eq, State.code?_eq, hW'.alike.method?]
      exact Option.some.inj (hc₂.symm.trans (h1.trans h.code))
    subst hcc
    have hlen : len₂ = len := by rw [hdg] at hd₂; cases hd₂; rfl
    subst hlen
    have hs₂ : s₂ = (({ U with heap := s₂.heap, slotsUsed := s₂.slotsUsed } : State).setVm s₂.vm).setTop { g with pc := g.pc + len₂, stack := v.toList ++ g.stack } := by
      refine e3.trans ?_
      rw [hf₂, State.calling_eq h.top, State.setFrames_setFrames, State.setTop_of_frames _ hr', hr]
      rfl
    have hsame : U.sameButNew ({ U with heap := s₂.heap, slotsUsed := s₂.slotsUsed } : State) L mc ms := by
      refine ⟨?_, q2, q3, q4, q5, q6⟩
      obtain ⟨t, ht, -⟩ := State.frames_cons hr
      show ({ U with heap := s₂.heap, slotsUsed := s₂.slotsUsed } : State) = { U.setFrames U.frames with heap := s₂.heap, slotsUsed := s₂.slotsUsed }
      rw [State.setFrames_self ht]
    subst hg
    refine Or.inl ⟨v, ⟨(({ U with heap := s₂.heap, slotsUsed := s₂.slotsUsed } : State).setVm s₂.vm), Ls ++ L, c0 + mc, s0 + ms⟩,
      ⟨X.admits, X.cas, X.clock, X.frames, X.room, X.hears, X.method, X.code, (X.here.setHeapUsed s₂.heap s₂.slotsUsed).setVm hW'.alike, X.tail, State.WarmedH.trans X.warmed hW', X.limits, X.bytes, X.same.trans (hsame.setVm s.vm)⟩,
      ⟨g, mk, s₂, L, rfl, rfl, hqc, rfl, hL, rfl, rfl⟩, ?_⟩
    show Steps p.tables e below _ ((({ U with heap := s₂.heap, slotsUsed := s₂.slotsUsed } : State).setVm s₂.vm).setTop { g with pc := g.pc + len₂, stack := v.toList ++ g.stack })
    rw [← hs₂]
    exact hsteps
  · obtain ⟨e2, q2, q3, q4, q5, q6⟩ := id hsm
    have e3 : s₂ = ({ (U.calling g mk a).setFrames s₂.frames with heap := s₂.heap, slotsUsed := s₂.slotsUsed } : State).setVm s₂.vm := by
      have : s₂ = ({ s₂ with vm := (U.calling g mk a).vm } : State).setVm s₂.vm := rfl
      rw [e2] at this
      exact this
    have hf₂ : s₂.frames = .throwing q :: .java g :: U.frames.tail := hend
    have hW' : U.WarmedH s₂.vm := hW₂
    have hs₂ : s₂ = ((({ U with heap := s₂.heap, slotsUsed := s₂.slotsUsed } : State).setVm s₂.vm).setTop g).pushFrame (.throwing q) := by
      refine e3.trans ?_
      rw [hf₂, State.calling_eq h.top, State.setFrames_setFrames, State.pushFrame, State.frames_setTop _ hr', State.setTop_of_frames _ hr', State.setFrames_setFrames, hr]
      rfl
    have hsame : U.sameButNew ({ U with heap := s₂.heap, slotsUsed := s₂.slotsUsed } : State) L mc ms := by
      refine ⟨?_, q2, q3, q4, q5, q6⟩
      obtain ⟨t, ht, -⟩ := State.frames_cons hr
      show ({ U with heap := s₂.heap, slotsUsed := s₂.slotsUsed } : State) = { U.setFrames U.frames with heap := s₂.heap, slotsUsed := s₂.slotsUsed }
      rw [State.setFrames_self ht]
    subst hg
    refine Or.inr ⟨q, ⟨(({ U with heap := s₂.heap, slotsUsed := s₂.slotsUsed } : State).setVm s₂.vm), Ls ++ L, c0 + mc, s0 + ms⟩,
      ⟨X.admits, X.cas, X.clock, X.frames, X.room, X.hears, X.method, X.code, (X.here.setHeapUsed s₂.heap s₂.slotsUsed).setVm hW'.alike, X.tail, State.WarmedH.trans X.warmed hW', X.limits, X.bytes, X.same.trans (hsame.setVm s.vm)⟩,
      ⟨g, mk, s₂, L, E, ce, rfl, rfl, hx, hce, hcv, hcl, rfl, hL, rfl, rfl⟩, ?_⟩
    show Steps p.tables e below _ (((({ U with heap := s₂.heap, slotsUsed := s₂.slotsUsed } : State).setVm s₂.vm).setTop g).pushFrame (.throwing q))
    rw [← hs₂]
    exact hsteps
end Payer
section Calls
variable {p : Program} {l : Launch} {e : Env} {R : Room} {s : State} {m : MethodId} {args : Array Value} {below : List Frame} {meth : Method} {c : Code} {T : State} {locs : List Loc} {cells slots : Nat}
theorem vx_callV (X : Stand p l e R s m args below meth c T locs cells slots) (hexec : p.tables.exec = Jvm.exec) {own C : String} {index : Nat} {y : MethodName} {bytes : ByteArray} {maxL : Nat} {ret : Option FieldType}
    (hown : s.vm.findClass own = some m.cls) (hlink : (Cond.methodLink own index y).before args s = true) (hinst : (Cond.instanceMethod y).before args s = true) (hsel : (Cond.selects C y y).before args s = true)
    (hcode : (Cond.code y bytes maxL ret).before args s = true) (hy : y.cls ≠ "java/lang/invoke/MethodHandle" ∧ y.cls ≠ "java/lang/invoke/VarHandle")
    {W9 : Nat} {Pre : Pt → Array Value → Prop} {Post : Pt → Array Value → Option Value → Pt → Prop} {PostX : Pt → Array Value → Addr → Pt → Prop} (hK : vx_Back l R p e below s args y 3 W9 Pre Post PostX)
    {b : Addr} {cellB : Cell} (hcell : T.heap[b]? = some cellB) (hobj : cellB.vm.isStatics = false) (hcls : s.vm.findClass C = some cellB.cls)
    {g : JFrame} (hg : g.method = m) (hsize : g.locals.size = c.maxLocals) {argsL rest : List Value} (hlen : ∀ sig, parseMethodDescriptor y.desc = some sig → argsL.length = sig.parameters.length)
    (hstack : g.stack = argsL.reverse ++ .ref b :: rest) (hW : 2 * g.monitorRoom + (rest.map fun v => v.category).sum ≤ W9) (hdg : decode c.code g.pc = .ok (.invokevirtual index, 3))
    (hpre : ∀ vm₁, s.WarmedH vm₁ → Pre ⟨T.setVm vm₁, locs, cells, slots⟩ (Value.ref b :: argsL).toArray) :
    (∃ (v : Option Value) (vm₁ : Vm) (B : Pt), s.WarmedH vm₁ ∧ Stand p l e R s m args below meth c B.U B.locs B.cells B.slots ∧ Post ⟨T.setVm vm₁, locs, cells, slots⟩ (Value.ref b :: argsL).toArray v B ∧
      ∀ target, Steps p.tables e below (B.U.setTop { g with pc := g.pc + 3, stack := v.toList ++ rest }) target → Steps p.tables e below (T.setTop g) target) ∨
    (∃ (q : Addr) (vm₁ : Vm) (B : Pt), s.WarmedH vm₁ ∧ Stand p l e R s m args below meth c B.U B.locs B.cells B.slots ∧ PostX ⟨T.setVm vm₁, locs, cells, slots⟩ (Value.ref b :: argsL).toArray q B ∧
      Steps p.tables e below (T.setTop g) ((B.U.setTop { g with stack := rest }).pushFrame (.throwing q))) := by
  obtain ⟨mk, methM, hnamed, hmethM, hstM, habM⟩ := Cond.instanceMethod_spec hinst
  obtain ⟨methM', cM, hmethM', -, -, -, -, -, -, hsigM⟩ := Cond.code_spec hnamed hcode
  cases hmethM.symm.trans hmethM'
  obtain ⟨c2, r2, m2, q1, q2, q3, q4, kP, hkP, hkPi⟩ := Cond.selects_spec hsel
  cases hcls.symm.trans q1
  cases (State.methodFound?_of_named hnamed hy).symm.trans q2
  cases hnamed.symm.trans q3
  have hselP : selectMethod e.platform s.vm cellB.cls mk = .method mk := by rw [Launch.admits_selectMethod X.admits]; exact q4
  obtain ⟨vm₁, X₁, hstep₁⟩ := X.invokevirtual hexec hown hlink hnamed hmethM hstM hkP hkPi hy (a := b) (cell := cellB) hcell
    (fun z h => by rw [h] at hobj; cases hobj) hselP hmethM habM hkP hkPi (g := g) hg (argsL := argsL) (rest := rest) (hlen _ hsigM) hstack hdg
  rcases hK m meth c ⟨T.setVm vm₁, locs, cells, slots⟩ { g with stack := rest } (.invokevirtual index) mk (Value.ref b :: argsL).toArray X₁ hg hsize hdg hW (X₁.named hnamed) (hpre vm₁ X₁.warmed) with ⟨v, B, X', hpost, hsteps⟩ | ⟨q, B, X', hpost, hsteps⟩
  · exact Or.inl ⟨v, vm₁, B, X₁.warmed, X', hpost, fun target h => hstep₁ _ fun acts => by rw [doInvoke_state]; exact hsteps.trans h⟩
  · exact Or.inr ⟨q, vm₁, B, X₁.warmed, X', hpost, hstep₁ _ fun acts => by rw [doInvoke_state]; exact hsteps⟩
theorem vx_callS (X : Stand p l e R s m args below meth c T locs cells slots) (hexec : p.tables.exec = Jvm.exec) {own : String} {index : Nat} {y : MethodName} {bytes : ByteArray} {maxL : Nat} {ret : Option FieldType}
    (hown : s.vm.findClass own = some m.cls) (hlink : (Cond.methodLink own index y).before args s = true) (hstat : (Cond.static y).before args s = true) (hinit : (Cond.initialized y.cls).before args s = true)
    (hcode : (Cond.code y bytes maxL ret).before args s = true) (hy : y.cls ≠ "java/lang/invoke/MethodHandle" ∧ y.cls ≠ "java/lang/invoke/VarHandle")
    {W9 : Nat} {Pre : Pt → Array Value → Prop} {Post : Pt → Array Value → Option Value → Pt → Prop} {PostX : Pt → Array Value → Addr → Pt → Prop} (hK : vx_Back l R p e below s args y 3 W9 Pre Post PostX)
    {g : JFrame} (hg : g.method = m) (hsize : g.locals.size = c.maxLocals) {argsL rest : List Value} (hlen : ∀ sig, parseMethodDescriptor y.desc = some sig → argsL.length = sig.parameters.length)
    (hstack : g.stack = argsL.reverse ++ rest) (hW : 2 * g.monitorRoom + (rest.map fun v => v.category).sum ≤ W9) (hdg : decode c.code g.pc = .ok (.invokestatic index, 3))
    (hpre : ∀ vm₁, s.WarmedH vm₁ → Pre ⟨T.setVm vm₁, locs, cells, slots⟩ argsL.toArray) :
    (∃ (v : Option Value) (vm₁ : Vm) (B : Pt), s.WarmedH vm₁ ∧ Stand p l e R s m args below meth c B.U B.locs B.cells B.slots ∧ Post ⟨T.setVm vm₁, locs, cells, slots⟩ argsL.toArray v B ∧
      ∀ target, Steps p.tables e below (B.U.setTop { g with pc := g.pc + 3, stack := v.toList ++ rest }) target → Steps p.tables e below (T.setTop g) target) ∨
    (∃ (q : Addr) (vm₁ : Vm) (B : Pt), s.WarmedH vm₁ ∧ Stand p l e R s m args below meth c B.U B.locs B.cells B.slots ∧ PostX ⟨T.setVm vm₁, locs, cells, slots⟩ argsL.toArray q B ∧
      Steps p.tables e below (T.setTop g) ((B.U.setTop { g with stack := rest }).pushFrame (.throwing q))) := by
  obtain ⟨mk, hnamed⟩ := Cond.code_named hcode
  obtain ⟨methM, cM, hmethM, -, -, -, -, -, -, hsigM⟩ := Cond.code_spec hnamed hcode
  have hstatic : methM.isStatic = true := Cond.static_spec hnamed hmethM hstat
  obtain ⟨kP, hkP, -⟩ := className_of_methodNamed hnamed
  have hinitP : kP.init = .initialized := Cond.initialized_spec (findClass_of_methodNamed hnamed) hkP hinit
  obtain ⟨vm₁, X₁, hstep₁⟩ := X.invokestatic hexec hown hlink hnamed hmethM hstatic hkP hinitP hy (g := g) hg (argsL := argsL) (rest := rest) (hlen _ hsigM) hstack hdg
  rcases hK m meth c ⟨T.setVm vm₁, locs, cells, slots⟩ { g with stack := rest } (.invokestatic index) mk argsL.toArray X₁ hg hsize hdg hW (X₁.named hnamed) (hpre vm₁ X₁.warmed) with ⟨v, B, X', hpost, hsteps⟩ | ⟨q, B, X', hpost, hsteps⟩
  · exact Or.inl ⟨v, vm₁, B, X₁.warmed, X', hpost, fun target h => hstep₁ _ fun acts => by rw [doInvoke_state]; exact hsteps.trans h⟩
  · exact Or.inr ⟨q, vm₁, B, X₁.warmed, X', hpost, hstep₁ _ fun acts => by rw [doInvoke_state]; exact hsteps⟩
end Calls
theorem vx_cls {s : State} {T : State} {vm₁ : Vm} {E : String} {k : ClassId} (hW : s.WarmedH vm₁) (h : (T.setVm vm₁).vm.findClass E = some k) : s.vm.findClass E = some k := by
  have h1 : vm₁.findClass E = some k := h
  rw [hW.alike.findClass] at h1
  exact h1
/-- the method's frame g, with q thrown over it -/
def vx_W (p : Program) (l : Launch) (e : Env) (R : Room) (s : State) (m : MethodId) (args : Array Value) (below : List Frame) (meth : Method) (c : Code) (H : Heap) (locs : List Loc) (cells slots : Nat) (Q : State → Prop) (g : JFrame) (q : Addr) : Prop :=
  ∀ T : State, T.heap = H → Stand p l e R s m args below meth c T locs cells slots → ∃ t, Steps p.tables e below ((T.setTop g).pushFrame (.throwing q)) t ∧ Q t
def vx_Run (p : Program) (l : Launch) (e : Env) (R : Room) (s : State) (m : MethodId) (args : Array Value) (below : List Frame) (meth : Method) (c : Code) (H : Heap) (locs : List Loc) (cells slots mc ms : Nat) (g : JFrame) (rest : List Value) (Qa : State → Outcome → State → Prop) (XC : String → State → State → Prop) (free : Addr → Prop) : Prop :=
  ∀ T : State, T.heap = H → Stand p l e R s m args below meth c T locs cells slots →
    (∃ (v : Option Value) (st₀ t T' : State) (L : List Loc), st₀.heap = H ∧ Stand p l e R s m args below meth c T' (locs ++ L) (cells + mc) (slots + ms) ∧ (∀ q ∈ L, free q.base) ∧ T'.heap = t.heap ∧ T'.vm = t.vm ∧ Qa st₀ (.returned v) t ∧
      Goes p e below T g T' { g with pc := g.pc + 3, stack := v.toList ++ rest }) ∨
    (∃ (q : Addr) (st₀ t T' : State) (L : List Loc) (E : String) (ce : Cell), st₀.heap = H ∧ Stand p l e R s m args below meth c T' (locs ++ L) (cells + mc) (slots + ms) ∧ (∀ z ∈ L, free z.base) ∧ T'.heap = t.heap ∧ T'.vm = t.vm ∧ XC E st₀ t ∧ t.heap[q]? = some ce ∧ ce.vm = .none ∧ s.vm.findClass E = some ce.cls ∧
      Steps p.tables e below (T.setTop g) ((T'.setTop { g with stack := rest }).pushFrame (.throwing q)))
def vx_X {S : Type} (px : S → Prop) (B : String → S → State → Prop) (A : Nat → Prop) : String → State → State → Prop := fun E st t => ∃ u : S, px u ∧ B E u t ∧ va_F A st t
section Runs
variable {p : Program} {l : Launch} {e : Env} {R : Room} {s : State} {m : MethodId} {args : Array Value} {below : List Frame} {meth : Method} {c : Code} {H : Heap} {locs : List Loc} {cells slots : Nat}
variable {y : MethodName} {bytes cc : ByteArray} {maxL nL mc ms n index : Nat} {ret : Option FieldType} {ws : List Cond} {rm : Room} {Pc : Array Value → State → Prop} {Qc : Array Value → State → Outcome → State → Prop} {XC : String → State → State → Prop} {free : Addr → Prop} {Ts : List Cond} {own C : String} {b : Addr} {As rest : List Value} {g : JFrame}
theorem vx_callBack (cb : CallB R s args own index y bytes maxL ret ws rm mc ms n) (hM : vx_Met l y ws rm Pc Qc XC mc ms free) (hbl : FrameBlind Pc) : vx_Back l R p e below s args y 3 8 (PreOf R mc ms Pc) (PostOf Qc mc ms free) (vx_Post XC mc ms free) := by
  obtain ⟨hrc, hrs, hfr, hlo, hws, hcw, -, hini, -⟩ := cb
  exact vx_back (bytes := bytes) (maxL := maxL) (ret := ret) hM hbl hrc hrs hfr hlo hws hcw (fun a' U hW => word_at hW (Or.inl (by first | rfl | simp [Cond.onTables, Cond.keeps, Cond.steady])) hini)
theorem vx_runV (S : CallFix p m c cc nL s args Ts own) (hM : vx_Met l y ws rm Pc Qc XC mc ms free) (cw : CallW R s args own C index y bytes maxL ret ws rm mc ms n) (hp : PreV s H C b Pc As)
    (hg : g.method = m) (hn : As.length = n) (hsize : g.locals.size = nL) (hstack : g.stack = As.reverse ++ .ref b :: rest) (hW : 2 * g.monitorRoom + (rest.map fun v => v.category).sum ≤ 8) (hdg : decode cc g.pc = .ok (.invokevirtual index, 3)) (hf : cells + mc ≤ R.cells ∧ slots + ms ≤ R.slots) :
    vx_Run p l e R s m args below meth c H locs cells slots mc ms g rest (Qc (Value.ref b :: As).toArray) XC free := by
  have hK : vx_Back l R p e below s args y 3 8 (PreOf R mc ms Pc) (PostOf Qc mc ms free) (vx_Post XC mc ms free) := vx_callBack cw.1 hM hp.1
  obtain ⟨⟨-, -, -, -, -, -, hcode, -, hy, hlen, hl⟩, hin, hse⟩ := cw
  obtain ⟨hx, hb, hml, ho, -⟩ := S
  obtain ⟨-, ⟨cellB, hcB, hoB, hclB⟩, hPc⟩ := hp
  intro T hT X
  rcases vx_callV X hx (C := C) (bytes := bytes) (maxL := maxL) (ret := ret) ho hl hin hse hcode hy hK (by rw [hT]; exact hcB) hoB hclB hg (hsize.trans hml.symm) (argsL := As) (rest := rest) (fun sig h => hn.trans (hlen sig h)) hstack hW (by rw [hb]; exact hdg)
    (fun vm₁ hW₁ => ⟨hf.1, hf.2, hPc (T.setVm vm₁) hT hW₁⟩) with ⟨v, vm₁, ⟨U', l2, c2, s2⟩, hW₁, X', ⟨g', mk, t, L, e1, e2, hq, h1, hL, h2, h3⟩, st⟩ | ⟨q, vm₁, ⟨U', l2, c2, s2⟩, hW₁, X', ⟨g', mk, t, L, E, ce, e1, e2, hq, hce, hcv, hcl, h1, hL, h2, h3⟩, st⟩
  · dsimp only [Pt.U, Pt.locs, Pt.cells, Pt.slots] at X' e1 e2 h1 h2 h3 st
    subst h1; subst h2; subst h3
    exact Or.inl ⟨v, (T.setVm vm₁).calling g' mk (Value.ref b :: As).toArray, t, U', L, hT, X', hL, e1, e2, hq, st⟩
  · dsimp only [Pt.U, Pt.locs, Pt.cells, Pt.slots] at X' e1 e2 h1 h2 h3 st hcl
    subst h1; subst h2; subst h3
    exact Or.inr ⟨q, (T.setVm vm₁).calling g' mk (Value.ref b :: As).toArray, t, U', L, E, ce, hT, X', hL, e1, e2, hq, hce, hcv, vx_cls hW₁ hcl, st⟩
theorem vx_runS (S : CallFix p m c cc nL s args Ts own) (hM : vx_Met l y ws rm Pc Qc XC mc ms free) (cw : CallB R s args own index y bytes maxL ret ws rm mc ms n ∧ (Cond.static y).before args s = true) (hp : PreS s H Pc As)
    (hg : g.method = m) (hn : As.length = n) (hsize : g.locals.size = nL) (hstack : g.stack = As.reverse ++ rest) (hW : 2 * g.monitorRoom + (rest.map fun v => v.category).sum ≤ 8) (hdg : decode cc g.pc = .ok (.invokestatic index, 3)) (hf : cells + mc ≤ R.cells ∧ slots + ms ≤ R.slots) :
    vx_Run p l e R s m args below meth c H locs cells slots mc ms g rest (Qc As.toArray) XC free := by
  have hK : vx_Back l R p e below s args y 3 8 (PreOf R mc ms Pc) (PostOf Qc mc ms free) (vx_Post XC mc ms free) := vx_callBack cw.1 hM hp.1
  obtain ⟨⟨-, -, -, -, -, -, hcode, hini, hy, hlen, hl⟩, hstt⟩ := cw
  obtain ⟨hx, hb, hml, ho, -⟩ := S
  intro T hT X
  rcases vx_callS X hx (bytes := bytes) (maxL := maxL) (ret := ret) ho hl hstt hini hcode hy hK hg (hsize.trans hml.symm) (argsL := As) (rest := rest) (fun sig h => hn.trans (hlen sig h)) hstack hW (by rw [hb]; exact hdg)
    (fun vm₁ hW₁ => ⟨hf.1, hf.2, hp.2 (T.setVm vm₁) hT hW₁⟩) with ⟨v, vm₁, ⟨U', l2, c2, s2⟩, hW₁, X', ⟨g', mk, t, L, e1, e2, hq, h1, hL, h2, h3⟩, st⟩ | ⟨q, vm₁, ⟨U', l2, c2, s2⟩, hW₁, X', ⟨g', mk, t, L, E, ce, e1, e2, hq, hce, hcv, hcl, h1, hL, h2, h3⟩, st⟩
  · dsimp only [Pt.U, Pt.locs, Pt.cells, Pt.slots] at X' e1 e2 h1 h2 h3 st
    subst h1; subst h2; subst h3
    exact Or.inl ⟨v, (T.setVm vm₁).calling g' mk As.toArray, t, U', L, hT, X', hL, e1, e2, hq, st⟩
  · dsimp only [Pt.U, Pt.locs, Pt.cells, Pt.slots] at X' e1 e2 h1 h2 h3 st hcl
    subst h1; subst h2; subst h3
    exact Or.inr ⟨q, (T.setVm vm₁).calling g' mk As.toArray, t, U', L, E, ce, hT, X', hL, e1, e2, hq, hce, hcv, vx_cls hW₁ hcl, st⟩
end Runs
section Rows
variable {p : Program} {l : Launch} {e : Env} {R : Room} {s : State} {m : MethodId} {args : Array Value} {below : List Frame} {meth : Method} {c : Code} {H : Heap} {locs : List Loc} {cells slots : Nat} {Q : State → Prop}
variable {mc ms : Nat} {free : Addr → Prop} {A0 A1 : Nat → Prop} {H0 : Heap} {a : Array Value} {pc : Nat} {ls : Array Slot} {st0 rest : List Value}
theorem vx_keep {st₀ t T' : State} {L : List Loc} (h0 : st₀.heap = H) (e1 : T'.heap = t.heap) (hS : va_S A0 H0 H locs) (hA : ∀ q, q < H.size → A1 q → A0 q) (hf : ∀ q, free q → A0 q) (hL : ∀ q ∈ L, free q.base) (hF : va_F A1 st₀ t) :
    H.size ≤ T'.heap.size ∧ (∀ q : Nat, q < H.size → ¬ A1 q → T'.heap[q]? = H[q]?) ∧ va_S A0 H0 T'.heap (locs ++ L) := by
  obtain ⟨hz, hk⟩ := hF
  rw [h0] at hz hk
  exact ⟨by rw [e1]; exact hz, fun q h1 h2 => by rw [e1]; exact hk q h1 h2,
    ⟨Nat.le_trans hS.1 (by rw [e1]; exact hz), fun q h1 h2 => by rw [e1, hk q (Nat.lt_of_lt_of_le h1 hS.1) (fun z => h2 (hA q (Nat.lt_of_lt_of_le h1 hS.1) z))]; exact hS.2.1 q h1 h2, fun q hq => by
      rcases List.mem_append.mp hq with h | h
      · exact hS.2.2 q h
      · exact hf _ (hL q h)⟩⟩
theorem vx_calli {S SX : Type} {post : Int32 → S → Prop} {px : SX → Prop} {B : S → State → Prop} {BX : String → SX → State → Prop} {AX : Nat → Prop} (hr : vx_Run p l e R s m args below meth c H locs cells slots mc ms (F0 m pc ls st0) rest (va_Qi post B A1 a) (vx_X px BX AX) free) (hS : va_S A0 H0 H locs) (hA : ∀ q, q < H.size → A1 q → A0 q) (hf : ∀ q, free q → A0 q) (hAX : ∀ q, q < H.size → AX q → A0 q)
    (kx : ∀ (E : String) (ce : Cell) (q9 : Addr) (u : SX) (t : State) (H1 : Heap) (locs1 : List Loc), t.heap = H1 → s.vm.Alike t.vm → px u → BX E u t → H.size ≤ H1.size → (∀ q : Nat, q < H.size → ¬ AX q → H1[q]? = H[q]?) → va_S A0 H0 H1 locs1 → H1[q9]? = some ce → ce.vm = .none → s.vm.findClass E = some ce.cls → vx_W p l e R s m args below meth c H1 locs1 (cells + mc) (slots + ms) Q (F0 m pc ls rest) q9)
    (kk : ∀ (r : Int32) (u : S) (t : State) (H1 : Heap) (locs1 : List Loc), t.heap = H1 → s.vm.Alike t.vm → post r u → B u t → H.size ≤ H1.size → (∀ q : Nat, q < H.size → ¬ A1 q → H1[q]? = H[q]?) → va_S A0 H0 H1 locs1 → W p l e R s m args below meth c H1 locs1 (cells + mc) (slots + ms) Q (F0 m (pc + 3) ls (.int r :: rest))) : W p l e R s m args below meth c H locs cells slots Q (F0 m pc ls st0) := by
  intro T hT X
  rcases hr T hT X with ⟨v, st₀, t, T', L, h0, X', hL, e1, e2, ⟨⟨r, u, hv, hp, hb⟩, hF⟩, st⟩ | ⟨q, st₀, t, T', L, E, ce, h0, X', hL, e1, e2, ⟨u, hp, hb, hF⟩, hce, hcv, hcl, st⟩
  · cases hv
    obtain ⟨k1, k2, k3⟩ := vx_keep h0 e1 hS hA hf hL hF
    obtain ⟨t2, a1, b1⟩ := kk r u t T'.heap (locs ++ L) e1.symm (by rw [← e2]; exact X'.warmed.alike) hp hb k1 k2 k3 T' rfl X'
    exact ⟨t2, st t2 a1, b1⟩
  · obtain ⟨k1, k2, k3⟩ := vx_keep h0 e1 hS hAX hf hL hF
    obtain ⟨t2, a1, b1⟩ := kx E ce q u t T'.heap (locs ++ L) e1.symm (by rw [← e2]; exact X'.warmed.alike) hp hb k1 k2 k3 (by rw [e1]; exact hce) hcv hcl T' rfl X'
    exact ⟨t2, st.trans a1, b1⟩
theorem vx_calll {S SX : Type} {post : Int64 → S → Prop} {px : SX → Prop} {B : S → State → Prop} {BX : String → SX → State → Prop} {AX : Nat → Prop} (hr : vx_Run p l e R s m args below meth c H locs cells slots mc ms (F0 m pc ls st0) rest (va_Ql post B A1 a) (vx_X px BX AX) free) (hS : va_S A0 H0 H locs) (hA : ∀ q, q < H.size → A1 q → A0 q) (hf : ∀ q, free q → A0 q) (hAX : ∀ q, q < H.size → AX q → A0 q)
    (kx : ∀ (E : String) (ce : Cell) (q9 : Addr) (u : SX) (t : State) (H1 : Heap) (locs1 : List Loc), t.heap = H1 → s.vm.Alike t.vm → px u → BX E u t → H.size ≤ H1.size → (∀ q : Nat, q < H.size → ¬ AX q → H1[q]? = H[q]?) → va_S A0 H0 H1 locs1 → H1[q9]? = some ce → ce.vm = .none → s.vm.findClass E = some ce.cls → vx_W p l e R s m args below meth c H1 locs1 (cells + mc) (slots + ms) Q (F0 m pc ls rest) q9)
    (kk : ∀ (r : Int64) (u : S) (t : State) (H1 : Heap) (locs1 : List Loc), t.heap = H1 → s.vm.Alike t.vm → post r u → B u t → H.size ≤ H1.size → (∀ q : Nat, q < H.size → ¬ A1 q → H1[q]? = H[q]?) → va_S A0 H0 H1 locs1 → W p l e R s m args below meth c H1 locs1 (cells + mc) (slots + ms) Q (F0 m (pc + 3) ls (.long r :: rest))) : W p l e R s m args below meth c H locs cells slots Q (F0 m pc ls st0) := by
  intro T hT X
  rcases hr T hT X with ⟨v, st₀, t, T', L, h0, X', hL, e1, e2, ⟨⟨r, u, hv, hp, hb⟩, hF⟩, st⟩ | ⟨q, st₀, t, T', L, E, ce, h0, X', hL, e1, e2, ⟨u, hp, hb, hF⟩, hce, hcv, hcl, st⟩
  · cases hv
    obtain ⟨k1, k2, k3⟩ := vx_keep h0 e1 hS hA hf hL hF
    obtain ⟨t2, a1, b1⟩ := kk r u t T'.heap (locs ++ L) e1.symm (by rw [← e2]; exact X'.warmed.alike) hp hb k1 k2 k3 T' rfl X'
    exact ⟨t2, st t2 a1, b1⟩
  · obtain ⟨k1, k2, k3⟩ := vx_keep h0 e1 hS hAX hf hL hF
    obtain ⟨t2, a1, b1⟩ := kx E ce q u t T'.heap (locs ++ L) e1.symm (by rw [← e2]; exact X'.warmed.alike) hp hb k1 k2 k3 (by rw [e1]; exact hce) hcv hcl T' rfl X'
    exact ⟨t2, st.trans a1, b1⟩
theorem vx_callf {S SX : Type} {post : UInt32 → S → Prop} {px : SX → Prop} {B : S → State → Prop} {BX : String → SX → State → Prop} {AX : Nat → Prop} (hr : vx_Run p l e R s m args below meth c H locs cells slots mc ms (F0 m pc ls st0) rest (va_Qf post B A1 a) (vx_X px BX AX) free) (hS : va_S A0 H0 H locs) (hA : ∀ q, q < H.size → A1 q → A0 q) (hf : ∀ q, free q → A0 q) (hAX : ∀ q, q < H.size → AX q → A0 q)
    (kx : ∀ (E : String) (ce : Cell) (q9 : Addr) (u : SX) (t : State) (H1 : Heap) (locs1 : List Loc), t.heap = H1 → s.vm.Alike t.vm → px u → BX E u t → H.size ≤ H1.size → (∀ q : Nat, q < H.size → ¬ AX q → H1[q]? = H[q]?) → va_S A0 H0 H1 locs1 → H1[q9]? = some ce → ce.vm = .none → s.vm.findClass E = some ce.cls → vx_W p l e R s m args below meth c H1 locs1 (cells + mc) (slots + ms) Q (F0 m pc ls rest) q9)
    (kk : ∀ (r : UInt32) (u : S) (t : State) (H1 : Heap) (locs1 : List Loc), t.heap = H1 → s.vm.Alike t.vm → post r u → B u t → H.size ≤ H1.size → (∀ q : Nat, q < H.size → ¬ A1 q → H1[q]? = H[q]?) → va_S A0 H0 H1 locs1 → W p l e R s m args below meth c H1 locs1 (cells + mc) (slots + ms) Q (F0 m (pc + 3) ls (.float r :: rest))) : W p l e R s m args below meth c H locs cells slots Q (F0 m pc ls st0) := by
  intro T hT X
  rcases hr T hT X with ⟨v, st₀, t, T', L, h0, X', hL, e1, e2, ⟨⟨r, u, hv, hp, hb⟩, hF⟩, st⟩ | ⟨q, st₀, t, T', L, E, ce, h0, X', hL, e1, e2, ⟨u, hp, hb, hF⟩, hce, hcv, hcl, st⟩
  · cases hv
    obtain ⟨k1, k2, k3⟩ := vx_keep h0 e1 hS hA hf hL hF
    obtain ⟨t2, a1, b1⟩ := kk r u t T'.heap (locs ++ L) e1.symm (by rw [← e2]; exact X'.warmed.alike) hp hb k1 k2 k3 T' rfl X'
    exact ⟨t2, st t2 a1, b1⟩
  · obtain ⟨k1, k2, k3⟩ := vx_keep h0 e1 hS hAX hf hL hF
    obtain ⟨t2, a1, b1⟩ := kx E ce q u t T'.heap (locs ++ L) e1.symm (by rw [← e2]; exact X'.warmed.alike) hp hb k1 k2 k3 (by rw [e1]; exact hce) hcv hcl T' rfl X'
    exact ⟨t2, st.trans a1, b1⟩
theorem vx_calld {S SX : Type} {post : UInt64 → S → Prop} {px : SX → Prop} {B : S → State → Prop} {BX : String → SX → State → Prop} {AX : Nat → Prop} (hr : vx_Run p l e R s m args below meth c H locs cells slots mc ms (F0 m pc ls st0) rest (va_Qd post B A1 a) (vx_X px BX AX) free) (hS : va_S A0 H0 H locs) (hA : ∀ q, q < H.size → A1 q → A0 q) (hf : ∀ q, free q → A0 q) (hAX : ∀ q, q < H.size → AX q → A0 q)
    (kx : ∀ (E : String) (ce : Cell) (q9 : Addr) (u : SX) (t : State) (H1 : Heap) (locs1 : List Loc), t.heap = H1 → s.vm.Alike t.vm → px u → BX E u t → H.size ≤ H1.size → (∀ q : Nat, q < H.size → ¬ AX q → H1[q]? = H[q]?) → va_S A0 H0 H1 locs1 → H1[q9]? = some ce → ce.vm = .none → s.vm.findClass E = some ce.cls → vx_W p l e R s m args below meth c H1 locs1 (cells + mc) (slots + ms) Q (F0 m pc ls rest) q9)
    (kk : ∀ (r : UInt64) (u : S) (t : State) (H1 : Heap) (locs1 : List Loc), t.heap = H1 → s.vm.Alike t.vm → post r u → B u t → H.size ≤ H1.size → (∀ q : Nat, q < H.size → ¬ A1 q → H1[q]? = H[q]?) → va_S A0 H0 H1 locs1 → W p l e R s m args below meth c H1 locs1 (cells + mc) (slots + ms) Q (F0 m (pc + 3) ls (.double r :: rest))) : W p l e R s m args below meth c H locs cells slots Q (F0 m pc ls st0) := by
  intro T hT X
  rcases hr T hT X with ⟨v, st₀, t, T', L, h0, X', hL, e1, e2, ⟨⟨r, u, hv, hp, hb⟩, hF⟩, st⟩ | ⟨q, st₀, t, T', L, E, ce, h0, X', hL, e1, e2, ⟨u, hp, hb, hF⟩, hce, hcv, hcl, st⟩
  · cases hv
    obtain ⟨k1, k2, k3⟩ := vx_keep h0 e1 hS hA hf hL hF
    obtain ⟨t2, a1, b1⟩ := kk r u t T'.heap (locs ++ L) e1.symm (by rw [← e2]; exact X'.warmed.alike) hp hb k1 k2 k3 T' rfl X'
    exact ⟨t2, st t2 a1, b1⟩
  · obtain ⟨k1, k2, k3⟩ := vx_keep h0 e1 hS hAX hf hL hF
    obtain ⟨t2, a1, b1⟩ := kx E ce q u t T'.heap (locs ++ L) e1.symm (by rw [← e2]; exact X'.warmed.alike) hp hb k1 k2 k3 (by rw [e1]; exact hce) hcv hcl T' rfl X'
    exact ⟨t2, st.trans a1, b1⟩
theorem vx_callv {S SX : Type} {post : S → Prop} {px : SX → Prop} {B : S → State → Prop} {BX : String → SX → State → Prop} {AX : Nat → Prop} (hr : vx_Run p l e R s m args below meth c H locs cells slots mc ms (F0 m pc ls st0) rest (va_Qv post B A1 a) (vx_X px BX AX) free) (hS : va_S A0 H0 H locs) (hA : ∀ q, q < H.size → A1 q → A0 q) (hf : ∀ q, free q → A0 q) (hAX : ∀ q, q < H.size → AX q → A0 q)
    (kx : ∀ (E : String) (ce : Cell) (q9 : Addr) (u : SX) (t : State) (H1 : Heap) (locs1 : List Loc), t.heap = H1 → s.vm.Alike t.vm → px u → BX E u t → H.size ≤ H1.size → (∀ q : Nat, q < H.size → ¬ AX q → H1[q]? = H[q]?) → va_S A0 H0 H1 locs1 → H1[q9]? = some ce → ce.vm = .none → s.vm.findClass E = some ce.cls → vx_W p l e R s m args below meth c H1 locs1 (cells + mc) (slots + ms) Q (F0 m pc ls rest) q9)
    (kk : ∀ (u : S) (t : State) (H1 : Heap) (locs1 : List Loc), t.heap = H1 → s.vm.Alike t.vm → post u → B u t → H.size ≤ H1.size → (∀ q : Nat, q < H.size → ¬ A1 q → H1[q]? = H[q]?) → va_S A0 H0 H1 locs1 → W p l e R s m args below meth c H1 locs1 (cells + mc) (slots + ms) Q (F0 m (pc + 3) ls (rest))) : W p l e R s m args below meth c H locs cells slots Q (F0 m pc ls st0) := by
  intro T hT X
  rcases hr T hT X with ⟨v, st₀, t, T', L, h0, X', hL, e1, e2, ⟨⟨u, hv, hp, hb⟩, hF⟩, st⟩ | ⟨q, st₀, t, T', L, E, ce, h0, X', hL, e1, e2, ⟨u, hp, hb, hF⟩, hce, hcv, hcl, st⟩
  · cases hv
    obtain ⟨k1, k2, k3⟩ := vx_keep h0 e1 hS hA hf hL hF
    obtain ⟨t2, a1, b1⟩ := kk u t T'.heap (locs ++ L) e1.symm (by rw [← e2]; exact X'.warmed.alike) hp hb k1 k2 k3 T' rfl X'
    exact ⟨t2, st t2 a1, b1⟩
  · obtain ⟨k1, k2, k3⟩ := vx_keep h0 e1 hS hAX hf hL hF
    obtain ⟨t2, a1, b1⟩ := kx E ce q u t T'.heap (locs ++ L) e1.symm (by rw [← e2]; exact X'.warmed.alike) hp hb k1 k2 k3 (by rw [e1]; exact hce) hcv hcl T' rfl X'
    exact ⟨t2, st.trans a1, b1⟩
end Rows
section Ends
variable {p : Program} {l : Launch} {e : Env} {R : Room} {s : State} {m : MethodId} {args : Array Value} {below : List Frame} {meth : Method} {c : Code} {H : Heap} {locs : List Loc} {cells slots : Nat} {Q : State → Prop}
variable {mc ms : Nat} {free : Addr → Prop} {A0 A1 : Nat → Prop} {H0 : Heap} {a : Array Value} {ls : Array Slot} {st0 rest : List Value}
variable {Qc : Array Value → State → Outcome → State → Prop} {XC : String → State → State → Prop}
/-- what a body that may throw owes at its end -/
def vx_MQ (below : List Frame) (Qc : Array Value → State → Outcome → State → Prop) (XC : String → State → State → Prop) (a : Array Value) (s : State) (mc ms : Nat) (free : Addr → Prop) : State → Prop := fun t =>
  ∃ o, t.status = .running ∧ Ended t below o ∧ vx_Q Qc XC mc ms free a s o t
theorem vx_ret {g : JFrame} {mc ms : Nat} (k : W p l e R s m args below meth c H locs cells slots (MQ below Qc args s mc ms free) g) : W p l e R s m args below meth c H locs cells slots (vx_MQ below Qc XC args s mc ms free) g := by
  intro T hT X
  obtain ⟨t, a1, o, b1, b2, b3, b4⟩ := k T hT X
  exact ⟨t, a1, o, b1, b2, Or.inl ⟨b3, b4⟩⟩
/-- not caught here: it goes on to the caller -/
theorem vx_widen {g : JFrame} {q : Addr} {k n : Nat} (h1 : cells ≤ k) (h2 : slots ≤ n) (kk : vx_W p l e R s m args below meth c H locs k n Q g q) : vx_W p l e R s m args below meth c H locs cells slots Q g q := fun T hT X => kk T hT (stand_widen X h1 h2)
theorem vx_out {pc : Nat} {E : String} {ce : Cell} {q : Addr} {mc ms : Nat} (hout : ∀ x ∈ c.exceptionTable.toList, covers x pc = false) (hlocks : meth.locks = false) (hcell : H[q]? = some ce) (hv : ce.vm = .none) (hcl : s.vm.findClass E = some ce.cls)
    (hx : ∀ t : State, t.heap = H → s.vm.Alike t.vm → XC E s t) (hf : ∀ z ∈ locs, free z.base) (hc : cells ≤ mc) (hs : slots ≤ ms) :
    vx_W p l e R s m args below meth c H locs cells slots (vx_MQ below Qc XC args s mc ms free) (F0 m pc ls rest) q := by
  intro T hT X
  obtain ⟨st1, hrun, hend, hW, hsm⟩ := X.leaveThrown q (g := F0 m pc ls rest) rfl rfl rfl hout hlocks
  have hcell9 : (T.setFrames (.throwing q :: below)).heap[q]? = some ce := by
    show T.heap[q]? = some ce
    rw [hT]; exact hcell
  exact ⟨_, st1, .threw q, hrun, hend, Or.inr ⟨q, rfl, E, ce, locs, hx _ hT hW.alike, hcell9, hv, hcl, hW, hsm.mono hc hs, hf⟩⟩
theorem vx_frame {U : State} {k n : Nat} (h : s.sameButNew ({ U with vm := s.vm } : State) locs k n) : s.heap.size ≤ U.heap.size ∧ ∀ q : Nat, q < s.heap.size → (∀ z ∈ locs, z.base ≠ q) → U.heap[q]? = s.heap[q]? := by
  obtain ⟨-, h2, -, -, -, h6⟩ := h
  refine ⟨h2, fun q hq hz => ?_⟩
  obtain ⟨c9, e1, e2, e3, e4⟩ := h6 q _ (Array.getElem?_eq_getElem hq)
  have hs : c9.slots = (s.heap[q]).slots := Array.ext_getElem? fun i => e4 i fun hm => hz _ hm rfl
  have h9 : c9 = s.heap[q] := by
    rw [hs] at e2
    exact e2
  have e5 : U.heap[q]? = some c9 := e1
  rw [e5, h9, Array.getElem?_eq_getElem hq]
/-- the words of a throw but the four that speak of the heap -/
def vx_no (w : Cond) : Bool := decide (w ≠ .isRef (.static Bundle.tN "UNASSIGNED_STACK" Bundle.steD)) && decide (w ≠ .isRef (.static Bundle.tN "SUPPRESSED_SENTINEL" Bundle.listD)) && decide (w ≠ .laysStatic Bundle.tN "UNASSIGNED_STACK" Bundle.steD) && decide (w ≠ .laysStatic Bundle.tN "SUPPRESSED_SENTINEL" Bundle.listD)
def vx_at0 (own : String) (ic : Nat) (X : String) (names : List String) : List Cond := (Bundle.ownAtoms0 own ic X names).filter vx_no
def vx_atS (own : String) (ic : Nat) (X : String) (names : List String) : List Cond := (Bundle.ownAtoms own ic X names).filter vx_no
/-- a word that the tables alone decide, or a good one -/
def vx_ot (w : Cond) : Bool := w.onTables || goodWord w
theorem vx_ot_at {args a' : Array Value} {s U : State} {w : Cond} (hW : s.WarmedH U.vm) (hvm : s.vm = U.vm) (hg : vx_ot w = true) (h : w.before args s = true) : w.before a' U = true := by
  simp only [vx_ot, Bool.or_eq_true] at hg
  rcases hg with hg | hg
  · exact va_tabs hg hvm h
  · exact word_at hW (good_of_word hg) h
/-- a list's words: the good ones out of the method's own list, the others by premises of their own -/
theorem vx_hat {args : Array Value} {s : State} {L B : List Cond} (h1 : ∀ w ∈ L.filter goodWord, w.before args s = true) (h2 : ∀ w ∈ L.filter (fun w => !goodWord w), w ∈ B) (h3 : ∀ w ∈ B, w.before args s = true) : ∀ w ∈ L, w.before args s = true := by
  intro w hw
  by_cases g : goodWord w = true
  · exact h1 w (List.mem_filter.mpr ⟨hw, g⟩)
  · refine h3 w (h2 w (List.mem_filter.mpr ⟨hw, ?_⟩))
    show (!goodWord w) = true
    cases hgw : goodWord w
    · rfl
    · exact absurd hgw g
theorem vx_c {args : Array Value} {s : State} {w : Cond} {B : List Cond} (h : w.before args s = true) (t : ∀ w ∈ B, w.before args s = true) : ∀ w' ∈ w :: B, w'.before args s = true := fun w' h' => (List.mem_cons.mp h').elim (fun e => by rw [e]; exact h) (t w')
theorem vx_n {args : Array Value} {s : State} : ∀ w ∈ ([] : List Cond), w.before args s = true := fun _ h => nomatch h
theorem vx_own {args : Array Value} {s : State} {L : List Cond} (h1 : ∀ w ∈ L.filter vx_no, w.before args s = true)
    (hU : (Cond.isRef (.static Bundle.tN "UNASSIGNED_STACK" Bundle.steD)).before args s = true) (hN : (Cond.isRef (.static Bundle.tN "SUPPRESSED_SENTINEL" Bundle.listD)).before args s = true)
    (lU : (Cond.laysStatic Bundle.tN "UNASSIGNED_STACK" Bundle.steD).before args s = true) (lN : (Cond.laysStatic Bundle.tN "SUPPRESSED_SENTINEL" Bundle.listD).before args s = true) : ∀ w ∈ L, w.before args s = true := by
  intro w hw
  by_cases e1 : w = .isRef (.static Bundle.tN "UNASSIGNED_STACK" Bundle.steD)
  · rw [e1]; exact hU
  · by_cases e2 : w = .isRef (.static Bundle.tN "SUPPRESSED_SENTINEL" Bundle.listD)
    · rw [e2]; exact hN
    · by_cases e3 : w = .laysStatic Bundle.tN "UNASSIGNED_STACK" Bundle.steD
      · rw [e3]; exact lU
      · by_cases e4 : w = .laysStatic Bundle.tN "SUPPRESSED_SENTINEL" Bundle.listD
        · rw [e4]; exact lN
        · exact h1 w (List.mem_filter.mpr ⟨hw, by unfold vx_no; rw [decide_eq_true e1, decide_eq_true e2, decide_eq_true e3, decide_eq_true e4]; rfl⟩)
/-- where a static field lies, its class's statics cell in H -/
def vx_L (C n d : String) (A : Nat → Prop) (U : State) (H : Heap) : Prop := ∃ (c : ClassId) (k : Class) (i : Nat) (f : Field) (a : Nat) (cell : Cell), U.vm.findClass C = some c ∧ U.fieldFound? C n d = some (c, k, i, f) ∧ f.isStatic = true ∧ k.statics = some a ∧ H[a]? = some cell ∧ cell.vm.isStatics = true ∧ cell.cls = c ∧ f.slot < cell.slots.size ∧ k.staticTypes[f.slot]? = some f.type ∧ ¬ A a
theorem vx_L.moved {C n d : String} {A : Nat → Prop} {u U : State} {H : Heap} (hvm : u.vm.Alike U.vm) (h : vx_L C n d A u H) : vx_L C n d A U H := by
  obtain ⟨c, k, i, f, a, cell, h1, h2, h3, h4, h5, h6, h7, h8, h9, h10⟩ := h
  obtain ⟨k', hi', he⟩ := State.fieldFound?_setVm hvm h2
  exact ⟨c, k', i, f, a, cell, by rw [hvm.findClass]; exact h1, hi', h3, by rw [he]; exact h4, h5, h6, h7, h8, by rw [he]; exact h9, h10⟩
theorem vx_L.kept {C n d : String} {A : Nat → Prop} {U : State} {H H1 : Heap} (h : vx_L C n d A U H) (hq : ∀ a : Nat, a < H.size → ¬ A a → H1[a]? = H[a]?) : vx_L C n d A U H1 := by
  obtain ⟨c, k, i, f, a, cell, h1, h2, h3, h4, h5, h6, h7, h8, h9, h10⟩ := h
  exact ⟨c, k, i, f, a, cell, h1, h2, h3, h4, by rw [hq a (Array.getElem?_eq_some_iff.mp h5).1 h10]; exact h5, h6, h7, h8, h9, h10⟩
theorem vx_L.narrow {C n d : String} {A B : Nat → Prop} {U : State} {H : Heap} (h : vx_L C n d A U H) (hAB : ∀ q, B q → A q) : vx_L C n d B U H := by
  obtain ⟨c, k, i, f, a, cell, h1, h2, h3, h4, h5, h6, h7, h8, h9, h10⟩ := h
  exact ⟨c, k, i, f, a, cell, h1, h2, h3, h4, h5, h6, h7, h8, h9, fun z => h10 (hAB _ z)⟩
theorem vx_L.word {C n d : String} {A : Nat → Prop} {s : State} {args : Array Value} (h : vx_L C n d A s s.heap) : (Cond.laysStatic C n d).before args s = true := by
  obtain ⟨c, k, i, f, a, cell, h1, h2, h3, h4, h5, h6, h7, h8, h9, -⟩ := h
  show (Cond.laysStatic C n d).holds args s none s [] = true
  exact Cond.laysStatic_of h1 h2 h3 h4 h5 h6 h7 h8 h9
/-- .. and what it holds: null or some reference -/
def vx_Zq (C n d : String) (A : Nat → Prop) (U : State) (H : Heap) : Prop := va_Zq C n d A U H ∧ vx_L C n d A U H
theorem vx_Zq.moved {C n d : String} {A : Nat → Prop} {u U : State} {H : Heap} (hvm : u.vm.Alike U.vm) (h : vx_Zq C n d A u H) : vx_Zq C n d A U H := ⟨va_Zq.moved hvm h.1, vx_L.moved hvm h.2⟩
theorem vx_Zq.kept {C n d : String} {A : Nat → Prop} {U : State} {H H1 : Heap} (h : vx_Zq C n d A U H) (hq : ∀ a : Nat, a < H.size → ¬ A a → H1[a]? = H[a]?) : vx_Zq C n d A U H1 := ⟨va_Zq.kept h.1 hq, vx_L.kept h.2 hq⟩
theorem vx_Zq.narrow {C n d : String} {A B : Nat → Prop} {U : State} {H : Heap} (h : vx_Zq C n d A U H) (hAB : ∀ q, B q → A q) : vx_Zq C n d B U H := ⟨va_Zq.narrow h.1 hAB, vx_L.narrow h.2 hAB⟩
theorem vx_Zqof {args : Array Value} {s : State} {C n d : String} {A : Nat → Prop} (hl : (Cond.laysStatic C n d).before args s = true) (hini : (Cond.initialized C).before args s = true) (h : (Cond.isRef (.static C n d)).before args s = true) (hA : ∀ a : Nat, a < s.heap.size → ¬ A a) : vx_Zq C n d A s s.heap := by
  refine ⟨va_Zqof hl hini h hA, ?_⟩
  obtain ⟨c, k, i, f, a, cell, h1, h2, h3, h4, h5, h6, h7, h8, h9⟩ := Cond.laysStatic_spec hl
  exact ⟨c, k, i, f, a, cell, h1, h2, h3, h4, h5, h6, h7, h8, h9, hA a (Array.getElem?_eq_some_iff.mp h5).1⟩
theorem vx_isRef {C n d : String} {v : Value} {A : Nat → Prop} {s : State} {args : Array Value} (h : va_Z C n d v A s s.heap) (hv : v.isRef = true) : (Cond.isRef (.static C n d)).before args s = true := by
  obtain ⟨cf, kf, fi, f, a, cell, h1, h2, h3, h4, h5, h6, h7, -⟩ := h
  have he : (Term.static C n d).eval args s none [] s = some v := by
    simp [Term.eval, State.fieldNamed?, h1, h2, h4, h5, h6, h7]
  simp only [Cond.before, Cond.holds, Cond.value, he]
  cases v <;> simp_all [Value.isRef]
theorem vx_isRefq {C n d : String} {A : Nat → Prop} {s : State} {args : Array Value} (h : va_Zq C n d A s s.heap) : (Cond.isRef (.static C n d)).before args s = true := by
  rcases h with h | ⟨t, h⟩
  · exact vx_isRef h rfl
  · exact vx_isRef h rfl
/-- the same frame, seen from here: as if the method were called anew in this heap -/
theorem vx_rebase {T : State} (X : Stand p l e R s m args below meth c T locs cells slots) {R' : Room} (hf : R'.frames ≤ R.frames) (hl : R'.locals ≤ R.locals) (hc : cells + R'.cells ≤ R.cells) (hs : slots + R'.slots ≤ R.slots) :
    Stand p l e R' ((T.setVm s.vm).setFrames (.invoking m args :: below)) m args below meth c T [] 0 0 := by
  have htop : (T.setVm s.vm).topJava?.isSome := X.here.top
  have hF : ((T.setVm s.vm).setFrames (.invoking m args :: below)).frames = .invoking m args :: below := State.frames_setFrames _ (State.cur_lt_of_top htop)
  obtain ⟨g₀, hg0⟩ := Option.isSome_iff_exists.mp htop
  obtain ⟨r, hr⟩ := State.topJava?_eq_some.mp hg0
  have hl9 : e.platform.stackLimits (T.setVm s.vm).me = e.platform.stackLimits s.me := X.limits
  have hb9 : (T.setVm s.vm).me.stackBytes = s.me.stackBytes := X.bytes
  refine ⟨X.admits, X.cas, X.clock, hF, ?_, X.hears, X.method, X.code, X.here, X.tail, X.warmed, ?_, ?_, ?_⟩
  · have h := X.room
    have hU : ((T.setVm s.vm).setFrames (.invoking m args :: below)).localsInUse = s.localsInUse := by
      rw [State.localsInUse_invoking hF (meth := meth) (c := c) X.method X.code, State.localsInUse_invoking X.frames X.method X.code]
    simp only [State.hasRoom, Bool.and_eq_true, decide_eq_true_eq] at h ⊢
    obtain ⟨⟨⟨⟨h1, h2, h3, h4, h5, h6⟩, h7⟩, h8⟩, h9⟩ := h
    rw [X.frames, List.length_cons] at h2 h3
    have q1 := X.heapSize
    have q2 := X.used
    simp only [hF, hU, List.length_cons, State.stackLimits_setFrames, State.stackBytes_setFrames, hl9, hb9]
    refine ⟨⟨⟨⟨by omega, by omega, by omega, by omega, by omega, h6⟩, ?_⟩, ?_⟩, X.book⟩
    · show T.heap.size + R'.cells ≤ e.platform.maxCells
      omega
    · show T.slotsUsed + R'.slots ≤ e.platform.maxSlots
      omega
  · rw [State.stackLimits_setFrames]; rfl
  · rw [State.stackBytes_setFrames]; rfl
  · refine ⟨?_, Nat.le_refl _, Nat.le_refl _, ?_, ?_, fun a c9 h9 => ⟨c9, h9, rfl, rfl, fun _ _ => rfl⟩⟩
    · obtain ⟨t, ht, -⟩ := State.frames_cons hr
      show T.setVm s.vm = { ((T.setVm s.vm).setFrames (.invoking m args :: below)).setFrames (T.setVm s.vm).frames with heap := T.heap, slotsUsed := T.slotsUsed }
      rw [State.setFrames_setFrames, State.setFrames_self ht]
      rfl
    · show T.slotsUsed = T.slotsUsed + ((T.heap.toList.drop T.heap.size).map (·.slots.size)).sum
      rw [List.drop_eq_nil_of_le (Nat.le_of_eq Array.length_toList)]
      rfl
    · show ((T.heap.toList.drop T.heap.size).map (·.slots.size)).sum ≤ 0
      rw [List.drop_eq_nil_of_le (Nat.le_of_eq Array.length_toList)]
      exact Nat.le_refl _
/-- 'throw new E()': new; dup; invokespecial; athrow -/
theorem vx_throw0 {cc : ByteArray} {pc : Nat} (hexec : p.tables.exec = Jvm.exec) (hb : c.code = cc) (hl : l.stackTraces = false) {own cls : String} {names : List String} {ik ic mc ms : Nat} {A : Nat → Prop}
    (hown : s.vm.findClass own = some m.cls) (hcls : Bundle.fit cls = true) (hnames : ∀ n ∈ names, Bundle.fit n = true)
    (hk : (Cond.classLink own ik cls).before args s = true) (hini : (Cond.initialized cls).before args s = true) (hat : ∀ w ∈ vx_at0 own ic cls names, w.before args s = true)
    (hgood : ∀ w ∈ Cond.classLink own ik cls :: Cond.initialized cls :: vx_at0 own ic cls names, vx_ot w = true)
    (hU : vx_Zq Bundle.tN "UNASSIGNED_STACK" Bundle.steD A s s.heap) (hN : vx_Zq Bundle.tN "SUPPRESSED_SENTINEL" Bundle.listD A s s.heap) (hS : va_S A s.heap H locs) (hsize : ls.size = c.maxLocals)
    (d0 : decode cc pc = .ok (.new ik, 3)) (d3 : decode cc (pc + 3) = .ok (.dup, 1)) (d4 : decode cc (pc + 4) = .ok (.invokespecial ic, 3)) (d7 : decode cc (pc + 7) = .ok (.athrow, 1))
    (hout : ∀ x ∈ c.exceptionTable.toList, covers x (pc + 7) = false)
    (hRframes : names.length + 3 < R.frames) (hRlocals : (rest.map fun v => v.category).sum + (13 * (names.length + 1) + 42) ≤ R.locals) (hRcells : cells + 1 ≤ R.cells) (hRslots : slots + 6 ≤ R.slots) (hlocks : meth.locks = false)
    (hx : ∀ t : State, s.vm.Alike t.vm → H.size ≤ t.heap.size → (∀ q : Nat, q < H.size → t.heap[q]? = H[q]?) → XC cls s t)
    (hf : ∀ z ∈ locs, free z.base) (hc : cells + 1 ≤ mc) (hs : slots + 6 ≤ ms) :
    W p l e R s m args below meth c H locs cells slots (vx_MQ below Qc XC args s mc ms free) (F0 m pc ls rest) := by
  intro T hT X
  have htr : e.platform.stackTraces = false := (show e.platform.stackTraces = l.stackTraces by rw [X.admits.platform]).trans hl
  have Y := vx_rebase X (R' := { frames := R.frames, locals := R.locals, cells := 1, slots := 6 }) (Nat.le_refl _) (Nat.le_refl _) hRcells hRslots
  obtain ⟨s', hA⟩ : ∃ z, z = (T.setVm s.vm).setFrames (.invoking m args :: below) := ⟨_, rfl⟩
  rw [← hA] at Y
  have hvm : s'.vm = s.vm := by rw [hA]; rfl
  have hhp : s'.heap = H := by rw [hA]; exact hT
  have hW0 : s.WarmedH s'.vm := by rw [hvm]; exact State.WarmedH.refl s
  have hat' : ∀ w ∈ vx_at0 own ic cls names, w.before args s' = true := fun w hw => vx_ot_at hW0 hvm.symm (hgood w (List.mem_cons_of_mem _ (List.mem_cons_of_mem _ hw))) (hat w hw)
  have hk' : (Cond.classLink own ik cls).before args s' = true := vx_ot_at hW0 hvm.symm (hgood _ List.mem_cons_self) hk
  have hini' : (Cond.initialized cls).before args s' = true := vx_ot_at hW0 hvm.symm (hgood _ (List.mem_cons_of_mem _ List.mem_cons_self)) hini
  have hU' : vx_Zq Bundle.tN "UNASSIGNED_STACK" Bundle.steD A s' s'.heap := by rw [hhp]; exact vx_Zq.moved hW0.alike (hU.kept hS.2.1)
  have hN' : vx_Zq Bundle.tN "SUPPRESSED_SENTINEL" Bundle.listD A s' s'.heap := by rw [hhp]; exact vx_Zq.moved hW0.alike (hN.kept hS.2.1)
  have h : ∀ w ∈ Bundle.ownAtoms0 own ic cls names, w.before args s' = true := vx_own hat' (vx_isRefq hU'.1) (vx_isRefq hN'.1) hU'.2.word hN'.2.word
  have hown' : s'.vm.findClass own = some m.cls := by rw [hvm]; exact hown
  have hins : (Cond.instantiable cls 6).before args s' = true := h _ (by simp [Bundle.ownAtoms0])
  obtain ⟨vm₁, cX, kX, hfX, hkX, -, -, X₁, st1⟩ := Y.newCold hexec (own := own) (C := cls) (index := ik) (n := 6) hown' hk' hins hini'
    (g := F0 m pc ls rest) rfl (by rw [hb]; exact d0) (Nat.le_refl _) (Nat.le_refl _)
  generalize hT1 : (T.setVm vm₁).pushCell { cls := cX, slots := kX.instanceTypes.map defaultValue, vm := .none } = T1 at X₁ st1
  have hcat : (Value.ref T.heap.size).category = 1 := rfl
  have hcellA : T1.heap[T.heap.size]? = some (freshCell cX kX) := by rw [← hT1]; exact State.heap_pushCell_size _ _
  have d3' : decode c.code (pc + 3) = .ok (.dup, 1) := by rw [hb]; exact d3
  obtain ⟨U, hsteps, hrun, hend, hW, hsame, ce, hce, hO⟩ := X₁.ctorThrow0 hexec htr (own := own) (cls := cls) (names := names) (ic := ic) hown' hcls hnames h (fun x hx => nomatch hx) hfX hkX hcellA (by rw [hhp, hT]; exact Nat.le_refl _)
    (g := { method := m, pc := pc + 4, locals := ls, stack := .ref T.heap.size :: .ref T.heap.size :: rest, locked := none }) rfl hsize rfl rfl (rest := rest) rfl
    (by rw [hb]; exact d4) (by rw [hb]; exact d7) hout hRframes (by simp only [List.map_cons, List.sum_cons, hcat]; omega) hlocks
  obtain ⟨f1, f2⟩ := vx_frame hsame
  rw [hhp] at f1 f2
  have hWs : s.WarmedH U.vm := State.WarmedH.trans hW0 hW
  have hcl : s.vm.findClass cls = some ce.cls := by
    have h9 := hO.cls
    rw [hvm] at h9
    exact h9
  have hall : s.sameButNew ({ U with vm := s.vm } : State) locs mc ms := by
    subst hA
    obtain ⟨e1, e2⟩ := hsame
    rw [State.setFrames_setFrames] at e1
    have h2 : (T.setVm s.vm).sameButNew ({ U with vm := s.vm } : State) [] (0 + 1) (0 + 6) := ⟨e1, e2⟩
    have h3 := X.same.trans h2
    rw [List.append_nil] at h3
    exact h3.mono hc hs
  refine ⟨U, ?_, .threw T.heap.size, hrun, hend, Or.inr ⟨T.heap.size, rfl, cls, ce, locs, hx U hWs.alike f1 (fun q hq => f2 q hq (fun z hz => nomatch hz)), hce, hO.vm, hcl, hWs, hall, hf⟩⟩
  refine st1 _ ?_
  show Steps p.tables e below (T1.setTop { method := m, pc := pc + 3, locals := ls, stack := .ref T.heap.size :: rest, locked := none }) _
  jvm_step X₁.here [X₁.here.top, hexec, d3', Value.category]
  exact hsteps
/-- 'throw new E("text")': new; dup; ldc; invokespecial; athrow -/
theorem vx_throwS {cc : ByteArray} {pc : Nat} (hexec : p.tables.exec = Jvm.exec) (hb : c.code = cc) (hl : l.stackTraces = false) {own cls text : String} {names : List String} {ik is ic mc ms sa : Nat} {A : Nat → Prop}
    (hown : s.vm.findClass own = some m.cls) (hcls : Bundle.fit cls = true) (hnames : ∀ n ∈ names, Bundle.fit n = true)
    (hk : (Cond.classLink own ik cls).before args s = true) (hini : (Cond.initialized cls).before args s = true) (hstr : vk_R own is text sa s) (hat : ∀ w ∈ vx_atS own ic cls names, w.before args s = true)
    (hgood : ∀ w ∈ Cond.classLink own ik cls :: Cond.initialized cls :: vx_atS own ic cls names, vx_ot w = true)
    (hU : vx_Zq Bundle.tN "UNASSIGNED_STACK" Bundle.steD A s s.heap) (hN : vx_Zq Bundle.tN "SUPPRESSED_SENTINEL" Bundle.listD A s s.heap) (hS : va_S A s.heap H locs) (hsize : ls.size = c.maxLocals)
    (d0 : decode cc pc = .ok (.new ik, 3)) (d3 : decode cc (pc + 3) = .ok (.dup, 1)) (d4 : decode cc (pc + 4) = .ok (.ldc is, 2)) (d6 : decode cc (pc + 6) = .ok (.invokespecial ic, 3)) (d9 : decode cc (pc + 9) = .ok (.athrow, 1))
    (hout : ∀ x ∈ c.exceptionTable.toList, covers x (pc + 9) = false)
    (hRframes : names.length + 3 < R.frames) (hRlocals : (rest.map fun v => v.category).sum + (13 * (names.length + 1) + 43) ≤ R.locals) (hRcells : cells + 1 ≤ R.cells) (hRslots : slots + 6 ≤ R.slots) (hlocks : meth.locks = false)
    (hx : ∀ t : State, s.vm.Alike t.vm → H.size ≤ t.heap.size → (∀ q : Nat, q < H.size → t.heap[q]? = H[q]?) → XC cls s t)
    (hf : ∀ z ∈ locs, free z.base) (hc : cells + 1 ≤ mc) (hs : slots + 6 ≤ ms) :
    W p l e R s m args below meth c H locs cells slots (vx_MQ below Qc XC args s mc ms free) (F0 m pc ls rest) := by
  intro T hT X
  have htr : e.platform.stackTraces = false := (show e.platform.stackTraces = l.stackTraces by rw [X.admits.platform]).trans hl
  have Y := vx_rebase X (R' := { frames := R.frames, locals := R.locals, cells := 1, slots := 6 }) (Nat.le_refl _) (Nat.le_refl _) hRcells hRslots
  obtain ⟨s', hA⟩ : ∃ z, z = (T.setVm s.vm).setFrames (.invoking m args :: below) := ⟨_, rfl⟩
  rw [← hA] at Y
  have hvm : s'.vm = s.vm := by rw [hA]; rfl
  have hhp : s'.heap = H := by rw [hA]; exact hT
  have hW0 : s.WarmedH s'.vm := by rw [hvm]; exact State.WarmedH.refl s
  have hat' : ∀ w ∈ vx_atS own ic cls names, w.before args s' = true := fun w hw => vx_ot_at hW0 hvm.symm (hgood w (List.mem_cons_of_mem _ (List.mem_cons_of_mem _ hw))) (hat w hw)
  have hk' : (Cond.classLink own ik cls).before args s' = true := vx_ot_at hW0 hvm.symm (hgood _ List.mem_cons_self) hk
  have hini' : (Cond.initialized cls).before args s' = true := vx_ot_at hW0 hvm.symm (hgood _ (List.mem_cons_of_mem _ List.mem_cons_self)) hini
  have hU' : vx_Zq Bundle.tN "UNASSIGNED_STACK" Bundle.steD A s' s'.heap := by rw [hhp]; exact vx_Zq.moved hW0.alike (hU.kept hS.2.1)
  have hN' : vx_Zq Bundle.tN "SUPPRESSED_SENTINEL" Bundle.listD A s' s'.heap := by rw [hhp]; exact vx_Zq.moved hW0.alike (hN.kept hS.2.1)
  have h : ∀ w ∈ Bundle.ownAtoms own ic cls names, w.before args s' = true := vx_own hat' (vx_isRefq hU'.1) (vx_isRefq hN'.1) hU'.2.word hN'.2.word
  have hown' : s'.vm.findClass own = some m.cls := by rw [hvm]; exact hown
  have hins : (Cond.instantiable cls 6).before args s' = true := h _ (by simp [Bundle.ownAtoms])
  obtain ⟨vm₁, cX, kX, hfX, hkX, -, -, X₁, st1⟩ := Y.newCold hexec (own := own) (C := cls) (index := ik) (n := 6) hown' hk' hins hini'
    (g := F0 m pc ls rest) rfl (by rw [hb]; exact d0) (Nat.le_refl _) (Nat.le_refl _)
  generalize hT1 : (T.setVm vm₁).pushCell { cls := cX, slots := kX.instanceTypes.map defaultValue, vm := .none } = T1 at X₁ st1
  have hcat : (Value.ref T.heap.size).category = 1 := rfl
  have hcellA : T1.heap[T.heap.size]? = some (freshCell cX kX) := by rw [← hT1]; exact State.heap_pushCell_size _ _
  have d3' : decode c.code (pc + 3) = .ok (.dup, 1) := by rw [hb]; exact d3
  have d4' : decode c.code (pc + 4) = .ok (.ldc is, 2) := by rw [hb]; exact d4
  have hstr' : vk_R own is text sa s' := vk_R.warm hW0 hstr
  obtain ⟨U, hsteps, hrun, hend, hW, hsame, ce, hce, hO⟩ := X₁.ctorThrowS hexec htr (own := own) (cls := cls) (names := names) (ic := ic) hown' hcls hnames h (fun x hx => nomatch hx) hfX hkX hcellA (by rw [hhp, hT]; exact Nat.le_refl _) (msg := .ref sa) rfl
    (g := { method := m, pc := pc + 6, locals := ls, stack := .ref sa :: .ref T.heap.size :: .ref T.heap.size :: rest, locked := none }) rfl hsize rfl rfl (rest := rest) rfl
    (by rw [hb]; exact d6) (by rw [hb]; exact d9) hout hRframes (by simp only [List.map_cons, List.sum_cons, hcat]; omega) hlocks
  obtain ⟨f1, f2⟩ := vx_frame hsame
  rw [hhp] at f1 f2
  have hWs : s.WarmedH U.vm := State.WarmedH.trans hW0 hW
  have hcl : s.vm.findClass cls = some ce.cls := by
    have h9 := hO.cls
    rw [hvm] at h9
    exact h9
  have hall : s.sameButNew ({ U with vm := s.vm } : State) locs mc ms := by
    subst hA
    obtain ⟨e1, e2⟩ := hsame
    rw [State.setFrames_setFrames] at e1
    have h2 : (T.setVm s.vm).sameButNew ({ U with vm := s.vm } : State) [] (0 + 1) (0 + 6) := ⟨e1, e2⟩
    have h3 := X.same.trans h2
    rw [List.append_nil] at h3
    exact h3.mono hc hs
  refine ⟨U, ?_, .threw T.heap.size, hrun, hend, Or.inr ⟨T.heap.size, rfl, cls, ce, locs, hx U hWs.alike f1 (fun q hq => f2 q hq (fun z hz => nomatch hz)), hce, hO.vm, hcl, hWs, hall, hf⟩⟩
  refine st1 _ ?_
  show Steps p.tables e below (T1.setTop { method := m, pc := pc + 3, locals := ls, stack := .ref T.heap.size :: rest, locked := none }) _
  jvm_step X₁.here [X₁.here.top, hexec, d3', Value.category]
  exact X₁.ldcString hexec (own := own) (text := text) (index := is) (a := sa) hown' hstr'.1 hstr'.2
    (g := { method := m, pc := pc + 4, locals := ls, stack := .ref T.heap.size :: .ref T.heap.size :: rest, locked := none }) rfl d4' _ hsteps
/-- 'throw new E("text")', the text by a wide index -/
theorem vx_throwSW {cc : ByteArray} {pc : Nat} (hexec : p.tables.exec = Jvm.exec) (hb : c.code = cc) (hl : l.stackTraces = false) {own cls text : String} {names : List String} {ik is ic mc ms sa : Nat} {A : Nat → Prop}
    (hown : s.vm.findClass own = some m.cls) (hcls : Bundle.fit cls = true) (hnames : ∀ n ∈ names, Bundle.fit n = true)
    (hk : (Cond.classLink own ik cls).before args s = true) (hini : (Cond.initialized cls).before args s = true) (hstr : vk_R own is text sa s) (hat : ∀ w ∈ vx_atS own ic cls names, w.before args s = true)
    (hgood : ∀ w ∈ Cond.classLink own ik cls :: Cond.initialized cls :: vx_atS own ic cls names, vx_ot w = true)
    (hU : vx_Zq Bundle.tN "UNASSIGNED_STACK" Bundle.steD A s s.heap) (hN : vx_Zq Bundle.tN "SUPPRESSED_SENTINEL" Bundle.listD A s s.heap) (hS : va_S A s.heap H locs) (hsize : ls.size = c.maxLocals)
    (d0 : decode cc pc = .ok (.new ik, 3)) (d3 : decode cc (pc + 3) = .ok (.dup, 1)) (d4 : decode cc (pc + 4) = .ok (.ldc_w is, 3)) (d7 : decode cc (pc + 7) = .ok (.invokespecial ic, 3)) (d10 : decode cc (pc + 10) = .ok (.athrow, 1))
    (hout : ∀ x ∈ c.exceptionTable.toList, covers x (pc + 10) = false)
    (hRframes : names.length + 3 < R.frames) (hRlocals : (rest.map fun v => v.category).sum + (13 * (names.length + 1) + 43) ≤ R.locals) (hRcells : cells + 1 ≤ R.cells) (hRslots : slots + 6 ≤ R.slots) (hlocks : meth.locks = false)
    (hx : ∀ t : State, s.vm.Alike t.vm → H.size ≤ t.heap.size → (∀ q : Nat, q < H.size → t.heap[q]? = H[q]?) → XC cls s t)
    (hf : ∀ z ∈ locs, free z.base) (hc : cells + 1 ≤ mc) (hs : slots + 6 ≤ ms) :
    W p l e R s m args below meth c H locs cells slots (vx_MQ below Qc XC args s mc ms free) (F0 m pc ls rest) := by
  intro T hT X
  have htr : e.platform.stackTraces = false := (show e.platform.stackTraces = l.stackTraces by rw [X.admits.platform]).trans hl
  have Y := vx_rebase X (R' := { frames := R.frames, locals := R.locals, cells := 1, slots := 6 }) (Nat.le_refl _) (Nat.le_refl _) hRcells hRslots
  obtain ⟨s', hA⟩ : ∃ z, z = (T.setVm s.vm).setFrames (.invoking m args :: below) := ⟨_, rfl⟩
  rw [← hA] at Y
  have hvm : s'.vm = s.vm := by rw [hA]; rfl
  have hhp : s'.heap = H := by rw [hA]; exact hT
  have hW0 : s.WarmedH s'.vm := by rw [hvm]; exact State.WarmedH.refl s
  have hat' : ∀ w ∈ vx_atS own ic cls names, w.before args s' = true := fun w hw => vx_ot_at hW0 hvm.symm (hgood w (List.mem_cons_of_mem _ (List.mem_cons_of_mem _ hw))) (hat w hw)
  have hk' : (Cond.classLink own ik cls).before args s' = true := vx_ot_at hW0 hvm.symm (hgood _ List.mem_cons_self) hk
  have hini' : (Cond.initialized cls).before args s' = true := vx_ot_at hW0 hvm.symm (hgood _ (List.mem_cons_of_mem _ List.mem_cons_self)) hini
  have hU' : vx_Zq Bundle.tN "UNASSIGNED_STACK" Bundle.steD A s' s'.heap := by rw [hhp]; exact vx_Zq.moved hW0.alike (hU.kept hS.2.1)
  have hN' : vx_Zq Bundle.tN "SUPPRESSED_SENTINEL" Bundle.listD A s' s'.heap := by rw [hhp]; exact vx_Zq.moved hW0.alike (hN.kept hS.2.1)
  have h : ∀ w ∈ Bundle.ownAtoms own ic cls names, w.before args s' = true := vx_own hat' (vx_isRefq hU'.1) (vx_isRefq hN'.1) hU'.2.word hN'.2.word
  have hown' : s'.vm.findClass own = some m.cls := by rw [hvm]; exact hown
  have hins : (Cond.instantiable cls 6).before args s' = true := h _ (by simp [Bundle.ownAtoms])
  obtain ⟨vm₁, cX, kX, hfX, hkX, -, -, X₁, st1⟩ := Y.newCold hexec (own := own) (C := cls) (index := ik) (n := 6) hown' hk' hins hini'
    (g := F0 m pc ls rest) rfl (by rw [hb]; exact d0) (Nat.le_refl _) (Nat.le_refl _)
  generalize hT1 : (T.setVm vm₁).pushCell { cls := cX, slots := kX.instanceTypes.map defaultValue, vm := .none } = T1 at X₁ st1
  have hcat : (Value.ref T.heap.size).category = 1 := rfl
  have hcellA : T1.heap[T.heap.size]? = some (freshCell cX kX) := by rw [← hT1]; exact State.heap_pushCell_size _ _
  have d3' : decode c.code (pc + 3) = .ok (.dup, 1) := by rw [hb]; exact d3
  have d4' : decode c.code (pc + 4) = .ok (.ldc_w is, 3) := by rw [hb]; exact d4
  have hstr' : vk_R own is text sa s' := vk_R.warm hW0 hstr
  obtain ⟨U, hsteps, hrun, hend, hW, hsame, ce, hce, hO⟩ := X₁.ctorThrowS hexec htr (own := own) (cls := cls) (names := names) (ic := ic) hown' hcls hnames h (fun x hx => nomatch hx) hfX hkX hcellA (by rw [hhp, hT]; exact Nat.le_refl _) (msg := .ref sa) rfl
    (g := { method := m, pc := pc + 7, locals := ls, stack := .ref sa :: .ref T.heap.size :: .ref T.heap.size :: rest, locked := none }) rfl hsize rfl rfl (rest := rest) rfl
    (by rw [hb]; exact d7) (by rw [hb]; exact d10) hout hRframes (by simp only [List.map_cons, List.sum_cons, hcat]; omega) hlocks
  obtain ⟨f1, f2⟩ := vx_frame hsame
  rw [hhp] at f1 f2
  have hWs : s.WarmedH U.vm := State.WarmedH.trans hW0 hW
  have hcl : s.vm.findClass cls = some ce.cls := by
    have h9 := hO.cls
    rw [hvm] at h9
    exact h9
  have hall : s.sameButNew ({ U with vm := s.vm } : State) locs mc ms := by
    subst hA
    obtain ⟨e1, e2⟩ := hsame
    rw [State.setFrames_setFrames] at e1
    have h2 : (T.setVm s.vm).sameButNew ({ U with vm := s.vm } : State) [] (0 + 1) (0 + 6) := ⟨e1, e2⟩
    have h3 := X.same.trans h2
    rw [List.append_nil] at h3
    exact h3.mono hc hs
  refine ⟨U, ?_, .threw T.heap.size, hrun, hend, Or.inr ⟨T.heap.size, rfl, cls, ce, locs, hx U hWs.alike f1 (fun q hq => f2 q hq (fun z hz => nomatch hz)), hce, hO.vm, hcl, hWs, hall, hf⟩⟩
  refine st1 _ ?_
  show Steps p.tables e below (T1.setTop { method := m, pc := pc + 3, locals := ls, stack := .ref T.heap.size :: rest, locked := none }) _
  jvm_step X₁.here [X₁.here.top, hexec, d3', Value.category]
  exact X₁.ldcStringW hexec (own := own) (text := text) (index := is) (a := sa) hown' hstr'.1 hstr'.2
    (g := { method := m, pc := pc + 4, locals := ls, stack := .ref T.heap.size :: .ref T.heap.size :: rest, locked := none }) rfl d4' _ hsteps
end Ends
section Bodies
variable {l : Launch}
theorem vx_ofW {y : MethodName} {ws ws' : List Cond} {rm : Room} {Pc : Array Value → State → Prop} {Qc : Array Value → State → Outcome → State → Prop} {XC : String → State → State → Prop} {mc ms : Nat} {free : Addr → Prop} {cc : ByteArray} {maxL : Nat} {ret : Option FieldType}
    (hy : plainName y.cls = true) (hw : ws = Cond.code y cc maxL ret :: ws')
    (body : ∀ p e s m args below meth c s₁, BodyLoose p l y (headSpec ws rm) cc maxL ret e s m args below meth c s₁ → c.maxLocals = maxL → (∀ x ∈ c.exceptionTable.toList, False) → Pc args s →
      W p l e (headSpec ws rm).room s m args below meth c s.heap [] 0 0 (vx_MQ below Qc XC args s mc ms free) (entryFrame m args maxL)) : vx_Met l y ws rm Pc Qc XC mc ms free := by
  refine MetFree.of_bodyS (code := cc) (maxLocals := maxL) (ret := ret) hy ?_ ?_
  · intro args s m h hn
    obtain ⟨meth, c, h1, h2, h3, h4, h5, h6, -, -⟩ := Cond.code_spec hn (atoms_spec (ws := ws) h _ (by rw [hw]; exact List.mem_cons_self))
    exact ⟨meth, c, h1, h2, h3, h4, h5, h6⟩
  · intro p e s m args below meth c s₁ B hml hP _
    have hh0 : s₁.heap = s.heap := by rw [B.state]; rfl
    have ht : ∀ x ∈ c.exceptionTable.toList, False := by
      obtain ⟨meth9, c9, h1, h2, -, -, -, -, h7, -⟩ := Cond.code_spec B.named (atoms_spec (ws := ws) B.pre _ (by rw [hw]; exact List.mem_cons_self))
      cases Option.some.inj (h1.symm.trans B.method)
      cases Option.some.inj (h2.symm.trans (Stand.of_body B).code)
      intro x hx
      rw [Array.isEmpty_iff.mp h7] at hx
      cases hx
    obtain ⟨t, a1, o, b1, b2, b3⟩ := body p e s m args below meth c s₁ B hml ht hP s₁ hh0 (Stand.of_body B)
    exact ⟨t, o, a1, b1, b2, b3⟩
/-- the table of a body with handlers -/
theorem vx_table {p : Program} {x y : MethodName} {S : Spec} {cc bytes : ByteArray} {maxL maxL' : Nat} {ret ret' : Option FieldType} {e : Env} {s s₁ : State} {m : MethodId} {args : Array Value} {below : List Frame} {meth : Method} {c : Code} {hh : List (Nat × Nat × Nat × Nat)}
    (B : BodyLoose p l y S cc maxL ret e s m args below meth c s₁) (h : (Cond.codeWith y bytes maxL' ret' hh).before args s = true) : c.exceptionTable.toList = tableOf hh := by
  obtain ⟨m9, meth9, c9, hn9, h1, h2, -, -, h6, -⟩ := Cond.codeWith_spec h
  cases Option.some.inj (hn9.symm.trans B.named)
  cases Option.some.inj (h1.symm.trans B.method)
  cases Option.some.inj (h2.symm.trans (Stand.of_body B).code)
  rw [← h6, table_eq]
end Bodies
end VXA
/-! ===== END ===== -/
/-! ===== BEGIN a static call of a method with an exception table ===== -/
section VXS
variable {p : Program} {l : Launch} {e : Env} {R : Room} {s : State} {m : MethodId} {args : Array Value} {below : List Frame} {meth : Method} {c : Code} {T : State} {H : Heap} {locs : List Loc} {cells slots : Nat}
abbrev vx_CSW (R : Room) (s : State) (args : Array Value) (own : String) (index : Nat) (y : MethodName) (bytes : ByteArray) (maxL : Nat) (ret : Option FieldType) (hh : List (Nat × Nat × Nat × Nat)) (ws : List Cond) (rm : Room) (mc ms n : Nat) : Prop :=
  (rm.cells = mc ∧ rm.slots = ms ∧ rm.frames + 1 ≤ R.frames ∧ 8 + (maxL + 11) + rm.locals ≤ R.locals ∧ (∀ w ∈ ws, ∀ (a' : Array Value) (U : State), s.WarmedH U.vm → w.before a' U = true) ∧ Cond.codeWith y bytes maxL ret hh ∈ ws) ∧
  (Cond.codeWith y bytes maxL ret hh).before args s = true ∧ (Cond.initialized y.cls).before args s = true ∧ (y.cls ≠ "java/lang/invoke/MethodHandle" ∧ y.cls ≠ "java/lang/invoke/VarHandle") ∧
  (∀ sig, parseMethodDescriptor y.desc = some sig → n = sig.parameters.length) ∧ (Cond.methodLink own index y).before args s = true ∧ (Cond.static y).before args s = true
theorem vx_cwSW {own : String} {index maxL mc ms : Nat} {y : MethodName} {bytes : ByteArray} {ret : Option FieldType} {hh : List (Nat × Nat × Nat × Nat)} {Ts ws ws' : List Cond} {rm : Room} (n : Nat) (ht : ∀ w ∈ Ts, w.before args s = true) (hT : GoodIn Ts (va_wsS own index y ws)) (hw : ws = Cond.codeWith y bytes maxL ret hh :: ws') (hrc : rm.cells = mc) (hrs : rm.slots = ms)
    (hd : y.cls ≠ "java/lang/invoke/MethodHandle" ∧ y.cls ≠ "java/lang/invoke/VarHandle" ∧ (parseMethodDescriptor y.desc).map (fun d => d.parameters.length) = some n) (hR : rm.frames + 1 ≤ R.frames ∧ 8 + (maxL + 11) + rm.locals ≤ R.locals) :
    vx_CSW R s args own index y bytes maxL ret hh ws rm mc ms n := by
  have ok : ∀ w ∈ va_wsS own index y ws, w.before args s = true := fun w h => ht w (hT w h).1
  have hG : GoodIn Ts ws := fun w h => hT w (by unfold va_wsS; exact List.mem_append_right _ h)
  have hc : Cond.codeWith y bytes maxL ret hh ∈ ws := by rw [hw]; exact List.mem_cons_self
  refine ⟨⟨hrc, hrs, hR.1, hR.2, pay_in ht hG, hc⟩, ht _ (hG _ hc).1, ok _ (by simp [va_wsS]), ⟨hd.1, hd.2.1⟩, fun sig h => ?_, ok _ (by simp [va_wsS]), ok _ (by simp [va_wsS])⟩
  have h2 := hd.2.2
  rw [h] at h2
  exact (Option.some.inj h2).symm
theorem vx_callSW (X : Stand p l e R s m args below meth c T locs cells slots) (hexec : p.tables.exec = Jvm.exec) {own : String} {index : Nat} {y : MethodName} {bytes : ByteArray} {maxL : Nat} {ret : Option FieldType} {hh : List (Nat × Nat × Nat × Nat)}
    (hown : s.vm.findClass own = some m.cls) (hlink : (Cond.methodLink own index y).before args s = true) (hstat : (Cond.static y).before args s = true) (hinit : (Cond.initialized y.cls).before args s = true)
    (hcode : (Cond.codeWith y bytes maxL ret hh).before args s = true) (hy : y.cls ≠ "java/lang/invoke/MethodHandle" ∧ y.cls ≠ "java/lang/invoke/VarHandle")
    {W9 : Nat} {Pre : Pt → Array Value → Prop} {Post : Pt → Array Value → Option Value → Pt → Prop} (hK : Back l R p e below s args y 3 W9 Pre Post)
    {g : JFrame} (hg : g.method = m) (hsize : g.locals.size = c.maxLocals) {argsL rest : List Value} (hlen : ∀ sig, parseMethodDescriptor y.desc = some sig → argsL.length = sig.parameters.length)
    (hstack : g.stack = argsL.reverse ++ rest) (hW : 2 * g.monitorRoom + (rest.map fun v => v.category).sum ≤ W9) (hdg : decode c.code g.pc = .ok (.invokestatic index, 3))
    (hpre : ∀ vm₁, s.WarmedH vm₁ → Pre ⟨T.setVm vm₁, locs, cells, slots⟩ argsL.toArray) :
    ∃ (v : Option Value) (vm₁ : Vm) (B : Pt), s.WarmedH vm₁ ∧ Stand p l e R s m args below meth c B.U B.locs B.cells B.slots ∧ Post ⟨T.setVm vm₁, locs, cells, slots⟩ argsL.toArray v B ∧
      ∀ target, Steps p.tables e below (B.U.setTop { g with pc := g.pc + 3, stack := v.toList ++ rest }) target → Steps p.tables e below (T.setTop g) target := by
  obtain ⟨mk, methM, cM, hnamed, hmethM, -, -, -, -, -, -, hsigM⟩ := Cond.codeWith_spec hcode
  have hstatic : methM.isStatic = true := Cond.static_spec hnamed hmethM hstat
  obtain ⟨kP, hkP, -⟩ := className_of_methodNamed hnamed
  have hinitP : kP.init = .initialized := Cond.initialized_spec (findClass_of_methodNamed hnamed) hkP hinit
  obtain ⟨vm₁, X₁, hstep₁⟩ := X.invokestatic hexec hown hlink hnamed hmethM hstatic hkP hinitP hy (g := g) hg (argsL := argsL) (rest := rest) (hlen _ hsigM) hstack hdg
  obtain ⟨v, B, X', hpost, hsteps⟩ := hK m meth c ⟨T.setVm vm₁, locs, cells, slots⟩ { g with stack := rest } (.invokestatic index) mk argsL.toArray X₁ hg hsize hdg hW (X₁.named hnamed) (hpre vm₁ X₁.warmed)
  exact ⟨v, vm₁, B, X₁.warmed, X', hpost, fun target h => hstep₁ _ fun acts => by rw [doInvoke_state]; exact hsteps.trans h⟩
theorem vx_runSW {y : MethodName} {bytes cc : ByteArray} {maxL nL mc ms n index : Nat} {ret : Option FieldType} {hh : List (Nat × Nat × Nat × Nat)} {ws : List Cond} {rm : Room} {Pc : Array Value → State → Prop} {Qc : Array Value → State → Outcome → State → Prop} {free : Addr → Prop} {Ts : List Cond} {own : String} {As rest : List Value} {g : JFrame}
    (S : CallFix p m c cc nL s args Ts own) (hM : Met l y ws rm Pc Qc mc ms free) (cw : vx_CSW R s args own index y bytes maxL ret hh ws rm mc ms n) (hp : PreS s H Pc As)
    (hg : g.method = m) (hn : As.length = n) (hsize : g.locals.size = nL) (hstack : g.stack = As.reverse ++ rest) (hW : 2 * g.monitorRoom + (rest.map fun v => v.category).sum ≤ 8) (hdg : decode cc g.pc = .ok (.invokestatic index, 3)) (hf : cells + mc ≤ R.cells ∧ slots + ms ≤ R.slots) :
    va_Run p l e R s m args below meth c H locs cells slots mc ms g rest (Qc As.toArray) (free) := by
  obtain ⟨⟨hrc, hrs, hfr, hlo, hws, hcw⟩, hcode, hini, hy, hlen, hl, hstt⟩ := cw
  have hK : Back l R p e below s args y 3 8 (PreOf R mc ms Pc) (PostOf Qc mc ms free) := va_backW (hh := hh) (bytes := bytes) (maxL := maxL) (ret := ret) hM hp.1 hrc hrs hfr hlo hws hcw (fun a' U hW => word_at hW (Or.inl (by first | rfl | simp [Cond.onTables, Cond.keeps, Cond.steady])) hini)
  obtain ⟨hx, hb, hml, ho, -⟩ := S
  intro T hT X
  obtain ⟨v, vm₁, ⟨U', l2, c2, s2⟩, hW₁, X', ⟨g', mk, t, L, e1, e2, hq, h1, hL, h2, h3⟩, st⟩ := vx_callSW X hx (hh := hh) (bytes := bytes) (maxL := maxL) (ret := ret) ho hl hstt hini hcode hy hK hg (hsize.trans hml.symm) (argsL := As) (rest := rest) (fun sig h => hn.trans (hlen sig h)) hstack hW (by rw [hb]; exact hdg)
    (fun vm₁ hW₁ => ⟨hf.1, hf.2, hp.2 (T.setVm vm₁) hT hW₁⟩)
  dsimp only [Pt.U, Pt.locs, Pt.cells, Pt.slots] at X' e1 e2 h1 h2 h3 st
  subst h1; subst h2; subst h3
  exact ⟨v, (T.setVm vm₁).calling g' mk As.toArray, t, U', L, hT, X', hL, e1, e2, hq, st⟩
/-- a thing of a world lies in the heap -/
theorem vx_lt {D : va_G} {cl : List vw_C} {ws : va_W} {H1 : Heap} (h : va_P D cl ws H1) {k : Nat} {q : Nat × va_E} (hk : ws[k]? = some q) : q.1 < H1.size := (h k q hk).lt
end VXS
/-! ===== END ===== -/
/-! ===== BEGIN methods with a table of their own: called by a name, returning or throwing ===== -/
section VXH
/-! vx_backW, vx_callVX, vx_callSX, vx_callVW, vx_runVW, vx_runVX, vx_runSX, vx_ofWH follow the same proofs as their sisters above (Free/Laws.lean, Shelf42/LK1.lean); vx_outP calls Shelf42/NT130.lean (outThrough). -/
section
variable {l : Launch} {R : Room} {p : Program} {e : Env} {below : List Frame} {s : State} {sargs : Array Value} {y : MethodName} {len W9 : Nat}
theorem vx_backW {ws : List Cond} {rm : Room} {Pc : Array Value → State → Prop} {Qc : Array Value → State → Outcome → State → Prop} {XC : String → State → State → Prop} {mc ms : Nat} {free : Addr → Prop} {bytes : ByteArray} {maxL : Nat} {ret : Option FieldType} {hh : List (Nat × Nat × Nat × Nat)}
    (hM : vx_Met l y ws rm Pc Qc XC mc ms free) (hblind : FrameBlind Pc) (hrc : rm.cells = mc) (hrs : rm.slots = ms)
    (hframes : rm.frames + 1 ≤ R.frames) (hlocals : W9 + (maxL + 11) + rm.locals ≤ R.locals)
    (hws : ∀ w ∈ ws, ∀ a' U, s.WarmedH U.vm → w.before a' U = true) (hcode : Cond.codeWith y bytes maxL ret hh ∈ ws) (hinit : ∀ a' U, s.WarmedH U.vm → (Cond.initialized y.cls).before a' U = true) :
    vx_Back l R p e below s sargs y len W9 (PreOf R mc ms Pc) (PostOf Qc mc ms free) (vx_Post XC mc ms free) := by
  intro m meth c A g ig mk a X hg hsize hdg hW hn hp
  have h1 : (headSpec ws rm).pre.before a A.U = true := atoms_intro fun w hw => hws w hw _ _ X.warmed
  have h2 : (Cond.codeWith y bytes maxL ret hh).before a A.U = true := hws _ hcode _ _ X.warmed
  have h3 : (Cond.initialized y.cls).before a A.U = true := hinit _ _ X.warmed
  have h4 : A.cells + (headSpec ws rm).room.cells ≤ R.cells := by rw [show (headSpec ws rm).room.cells = mc from hrc]; exact hp.1
  have h5 : A.slots + (headSpec ws rm).room.slots ≤ R.slots := by rw [show (headSpec ws rm).room.slots = ms from hrs]; exact hp.2.1
  have hPc : Pc a (A.U.calling g mk a) := hblind _ _ _ _ hp.2.2
  obtain ⟨U, Ls, c0, s0⟩ := A
  dsimp only [Pt.U, Pt.locs, Pt.cells, Pt.slots] at h1 h2 h3 h4 h5 X hn hPc ⊢
  obtain ⟨m9, methY, cY, hn9, hmY, hcY, -, hlY, -⟩ := Cond.codeWith_spec h2
  cases Option.some.inj (hn9.symm.trans hn)
  obtain ⟨kY, hkY, -⟩ := className_of_methodNamed hn
  have hinitY : kY.init = .initialized := Cond.initialized_spec (findClass_of_methodNamed hn) hkY h3
  have h : At U g.method c below := by rw [hg]; exact X.here
  have hlocals9 : W9 + (maxL + 11) + (headSpec ws rm).room.locals ≤ R.locals := hlocals
  have happ : (headSpec ws rm).appliesLoose y e.platform (U.calling g mk a) = true :=
    Spec.appliesLoose_calling (g := g) h hdg hn hkY hinitY
      (X.room_calling (g := g) (R' := (headSpec ws rm).room) hsize hmY hcY hframes (by rw [hlY]; omega) h4 h5) h1
  obtain ⟨mid, hmid⟩ := h.above
  have hfr : (U.setTop g).frames = (.java g :: mid) ++ below := by rw [State.frames_setTop' g h.top, hmid]; rfl
  obtain ⟨o, s₂, hsteps, -, hend, hq⟩ := Steps.callFree hM p X.admits X.cas X.clock (acts := []) hfr happ hPc trivial
  have hq' : vx_Q Qc XC mc ms free a (U.calling g mk a) o s₂ := hq
  rw [State.frames_setTop' g h.top] at hend
  obtain ⟨g₀, hg0⟩ := Option.isSome_iff_exists.mp h.top
  obtain ⟨r, hr⟩ := State.topJava?_eq_some.mp hg0
  have hr' : (({ U with heap := s₂.heap, slotsUsed := s₂.slotsUsed } : State).setVm s₂.vm).frames = .java g₀ :: r := hr
  rcases hq' with ⟨hqc, L, hfe, hL⟩ | ⟨q, rfl, E, ce, L, hx, hce, hcv, hcl, hW₂, hsm, hL⟩
  · obtain ⟨⟨v, rfl⟩, hW₂, e2, q2, q3, q4, q5, q6⟩ := id hfe
    have e3 : s₂ = ({ (U.calling g mk a).setFrames s₂.frames with heap := s₂.heap, slotsUsed := s₂.slotsUsed } : State).setVm s₂.vm := by
      have : s₂ = ({ s₂ with vm := (U.calling g mk a).vm } : State).setVm s₂.vm := rfl
      rw [e2] at this
      exact this
    obtain ⟨c₂, i₂, len₂, hc₂, hd₂, hf₂⟩ := hend
    have hW' : U.WarmedH s₂.vm := hW₂
    have hcc : c₂ = c := by
      have h1 : s₂.code? g.method = U.code? g.method := by
        rw [State.code?_eq, State.code?_eq, hW'.alike.method?]
      exact Option.some.inj (hc₂.symm.trans (h1.trans h.code))
    subst hcc
    have hlen : len₂ = len := by rw [hdg] at hd₂; cases hd₂; rfl
    subst hlen
    have hs₂ : s₂ = (({ U with heap := s₂.heap, slotsUsed := s₂.slotsUsed } : State).setVm s₂.vm).setTop { g with pc := g.pc + len₂, stack := v.toList ++ g.stack } := by
      refine e3.trans ?_
      rw [hf₂, State.calling_eq h.top, State.setFrames_setFrames, State.setTop_of_frames _ hr', hr]
      rfl
    have hsame : U.sameButNew ({ U with heap := s₂.heap, slotsUsed := s₂.slotsUsed } : State) L mc ms := by
      refine ⟨?_, q2, q3, q4, q5, q6⟩
      obtain ⟨t, ht, -⟩ := State.frames_cons hr
      show ({ U with heap := s₂.heap, slotsUsed := s₂.slotsUsed } : State) = { U.setFrames U.frames with heap := s₂.heap, slotsUsed := s₂.slotsUsed }
      rw [State.setFrames_self ht]
    subst hg
    refine Or.inl ⟨v, ⟨(({ U with heap := s₂.heap, slotsUsed := s₂.slotsUsed } : State).setVm s₂.vm), Ls ++ L, c0 + mc, s0 + ms⟩,
      ⟨X.admits, X.cas, X.clock, X.frames, X.room, X.hears, X.method, X.code, (X.here.setHeapUsed s₂.heap s₂.slotsUsed).setVm hW'.alike, X.tail, State.WarmedH.trans X.warmed hW', X.limits, X.bytes, X.same.trans (hsame.setVm s.vm)⟩,
      ⟨g, mk, s₂, L, rfl, rfl, hqc, rfl, hL, rfl, rfl⟩, ?_⟩
    show Steps p.tables e below _ ((({ U with heap := s₂.heap, slotsUsed := s₂.slotsUsed } : State).setVm s₂.vm).setTop { g with pc := g.pc + len₂, stack := v.toList ++ g.stack })
    rw [← hs₂]
    exact hsteps
  · obtain ⟨e2, q2, q3, q4, q5, q6⟩ := id hsm
    have e3 : s₂ = ({ (U.calling g mk a).setFrames s₂.frames with heap := s₂.heap, slotsUsed := s₂.slotsUsed } : State).setVm s₂.vm := by
      have : s₂ = ({ s₂ with vm := (U.calling g mk a).vm } : State).setVm s₂.vm := rfl
      rw [e2] at this
      exact this
    have hf₂ : s₂.frames = .throwing q :: .java g :: U.frames.tail := hend
    have hW' : U.WarmedH s₂.vm := hW₂
    have hs₂ : s₂ = ((({ U with heap := s₂.heap, slotsUsed := s₂.slotsUsed } : State).setVm s₂.vm).setTop g).pushFrame (.throwing q) := by
      refine e3.trans ?_
      rw [hf₂, State.calling_eq h.top, State.setFrames_setFrames, State.pushFrame, State.frames_setTop _ hr', State.setTop_of_frames _ hr', State.setFrames_setFrames, hr]
      rfl
    have hsame : U.sameButNew ({ U with heap := s₂.heap, slotsUsed := s₂.slotsUsed } : State) L mc ms := by
      refine ⟨?_, q2, q3, q4, q5, q6⟩
      obtain ⟨t, ht, -⟩ := State.frames_cons hr
      show ({ U with heap := s₂.heap, slotsUsed := s₂.slotsUsed } : State) = { U.setFrames U.frames with heap := s₂.heap, slotsUsed := s₂.slotsUsed }
      rw [State.setFrames_self ht]
    subst hg
    refine Or.inr ⟨q, ⟨(({ U with heap := s₂.heap, slotsUsed := s₂.slotsUsed } : State).setVm s₂.vm), Ls ++ L, c0 + mc, s0 + ms⟩,
      ⟨X.admits, X.cas, X.clock, X.frames, X.room, X.hears, X.method, X.code, (X.here.setHeapUsed s₂.heap s₂.slotsUsed).setVm hW'.alike, X.tail, State.WarmedH.trans X.warmed hW', X.limits, X.bytes, X.same.trans (hsame.setVm s.vm)⟩,
      ⟨g, mk, s₂, L, E, ce, rfl, rfl, hx, hce, hcv, hcl, rfl, hL, rfl, rfl⟩, ?_⟩
    show Steps p.tables e below _ (((({ U with heap := s₂.heap, slotsUsed := s₂.slotsUsed } : State).setVm s₂.vm).setTop g).pushFrame (.throwing q))
    rw [← hs₂]
    exact hsteps
end
variable {p : Program} {l : Launch} {e : Env} {R : Room} {s : State} {m : MethodId} {args : Array Value} {below : List Frame} {meth : Method} {c : Code} {T : State} {H : Heap} {locs : List Loc} {cells slots : Nat}
theorem vx_callVX (X : Stand p l e R s m args below meth c T locs cells slots) (hexec : p.tables.exec = Jvm.exec) {own C : String} {index : Nat} {y : MethodName} {bytes : ByteArray} {maxL : Nat} {ret : Option FieldType} {hh : List (Nat × Nat × Nat × Nat)}
    (hown : s.vm.findClass own = some m.cls) (hlink : (Cond.methodLink own index y).before args s = true) (hinst : (Cond.instanceMethod y).before args s = true) (hsel : (Cond.selects C y y).before args s = true)
    (hcode : (Cond.codeWith y bytes maxL ret hh).before args s = true) (hy : y.cls ≠ "java/lang/invoke/MethodHandle" ∧ y.cls ≠ "java/lang/invoke/VarHandle")
    {W9 : Nat} {Pre : Pt → Array Value → Prop} {Post : Pt → Array Value → Option Value → Pt → Prop} {PostX : Pt → Array Value → Addr → Pt → Prop} (hK : vx_Back l R p e below s args y 3 W9 Pre Post PostX)
    {b : Addr} {cellB : Cell} (hcell : T.heap[b]? = some cellB) (hobj : cellB.vm.isStatics = false) (hcls : s.vm.findClass C = some cellB.cls)
    {g : JFrame} (hg : g.method = m) (hsize : g.locals.size = c.maxLocals) {argsL rest : List Value} (hlen : ∀ sig, parseMethodDescriptor y.desc = some sig → argsL.length = sig.parameters.length)
    (hstack : g.stack = argsL.reverse ++ .ref b :: rest) (hW : 2 * g.monitorRoom + (rest.map fun v => v.category).sum ≤ W9) (hdg : decode c.code g.pc = .ok (.invokevirtual index, 3))
    (hpre : ∀ vm₁, s.WarmedH vm₁ → Pre ⟨T.setVm vm₁, locs, cells, slots⟩ (Value.ref b :: argsL).toArray) :
    (∃ (v : Option Value) (vm₁ : Vm) (B : Pt), s.WarmedH vm₁ ∧ Stand p l e R s m args below meth c B.U B.locs B.cells B.slots ∧ Post ⟨T.setVm vm₁, locs, cells, slots⟩ (Value.ref b :: argsL).toArray v B ∧
      ∀ target, Steps p.tables e below (B.U.setTop { g with pc := g.pc + 3, stack := v.toList ++ rest }) target → Steps p.tables e below (T.setTop g) target) ∨
    (∃ (q : Addr) (vm₁ : Vm) (B : Pt), s.WarmedH vm₁ ∧ Stand p l e R s m args below meth c B.U B.locs B.cells B.slots ∧ PostX ⟨T.setVm vm₁, locs, cells, slots⟩ (Value.ref b :: argsL).toArray q B ∧
      Steps p.tables e below (T.setTop g) ((B.U.setTop { g with stack := rest }).pushFrame (.throwing q))) := by
  obtain ⟨mk, methM, hnamed, hmethM, hstM, habM⟩ := Cond.instanceMethod_spec hinst
  obtain ⟨m8, methM', cM, hn8, hmethM', -, -, -, -, -, -, hsigM⟩ := Cond.codeWith_spec hcode
  cases Option.some.inj (hn8.symm.trans hnamed)
  cases hmethM.symm.trans hmethM'
  obtain ⟨c2, r2, m2, q1, q2, q3, q4, kP, hkP, hkPi⟩ := Cond.selects_spec hsel
  cases hcls.symm.trans q1
  cases (State.methodFound?_of_named hnamed hy).symm.trans q2
  cases hnamed.symm.trans q3
  have hselP : selectMethod e.platform s.vm cellB.cls mk = .method mk := by rw [Launch.admits_selectMethod X.admits]; exact q4
  obtain ⟨vm₁, X₁, hstep₁⟩ := X.invokevirtual hexec hown hlink hnamed hmethM hstM hkP hkPi hy (a := b) (cell := cellB) hcell
    (fun z h => by rw [h] at hobj; cases hobj) hselP hmethM habM hkP hkPi (g := g) hg (argsL := argsL) (rest := rest) (hlen _ hsigM) hstack hdg
  rcases hK m meth c ⟨T.setVm vm₁, locs, cells, slots⟩ { g with stack := rest } (.invokevirtual index) mk (Value.ref b :: argsL).toArray X₁ hg hsize hdg hW (X₁.named hnamed) (hpre vm₁ X₁.warmed) with ⟨v, B, X', hpost, hsteps⟩ | ⟨q, B, X', hpost, hsteps⟩
  · exact Or.inl ⟨v, vm₁, B, X₁.warmed, X', hpost, fun target h => hstep₁ _ fun acts => by rw [doInvoke_state]; exact hsteps.trans h⟩
  · exact Or.inr ⟨q, vm₁, B, X₁.warmed, X', hpost, hstep₁ _ fun acts => by rw [doInvoke_state]; exact hsteps⟩
theorem vx_callSX (X : Stand p l e R s m args below meth c T locs cells slots) (hexec : p.tables.exec = Jvm.exec) {own : String} {index : Nat} {y : MethodName} {bytes : ByteArray} {maxL : Nat} {ret : Option FieldType} {hh : List (Nat × Nat × Nat × Nat)}
    (hown : s.vm.findClass own = some m.cls) (hlink : (Cond.methodLink own index y).before args s = true) (hstat : (Cond.static y).before args s = true) (hinit : (Cond.initialized y.cls).before args s = true)
    (hcode : (Cond.codeWith y bytes maxL ret hh).before args s = true) (hy : y.cls ≠ "java/lang/invoke/MethodHandle" ∧ y.cls ≠ "java/lang/invoke/VarHandle")
    {W9 : Nat} {Pre : Pt → Array Value → Prop} {Post : Pt → Array Value → Option Value → Pt → Prop} {PostX : Pt → Array Value → Addr → Pt → Prop} (hK : vx_Back l R p e below s args y 3 W9 Pre Post PostX)
    {g : JFrame} (hg : g.method = m) (hsize : g.locals.size = c.maxLocals) {argsL rest : List Value} (hlen : ∀ sig, parseMethodDescriptor y.desc = some sig → argsL.length = sig.parameters.length)
    (hstack : g.stack = argsL.reverse ++ rest) (hW : 2 * g.monitorRoom + (rest.map fun v => v.category).sum ≤ W9) (hdg : decode c.code g.pc = .ok (.invokestatic index, 3))
    (hpre : ∀ vm₁, s.WarmedH vm₁ → Pre ⟨T.setVm vm₁, locs, cells, slots⟩ argsL.toArray) :
    (∃ (v : Option Value) (vm₁ : Vm) (B : Pt), s.WarmedH vm₁ ∧ Stand p l e R s m args below meth c B.U B.locs B.cells B.slots ∧ Post ⟨T.setVm vm₁, locs, cells, slots⟩ argsL.toArray v B ∧
      ∀ target, Steps p.tables e below (B.U.setTop { g with pc := g.pc + 3, stack := v.toList ++ rest }) target → Steps p.tables e below (T.setTop g) target) ∨
    (∃ (q : Addr) (vm₁ : Vm) (B : Pt), s.WarmedH vm₁ ∧ Stand p l e R s m args below meth c B.U B.locs B.cells B.slots ∧ PostX ⟨T.setVm vm₁, locs, cells, slots⟩ argsL.toArray q B ∧
      Steps p.tables e below (T.setTop g) ((B.U.setTop { g with stack := rest }).pushFrame (.throwing q))) := by
  obtain ⟨mk, methM, cM, hnamed, hmethM, -, -, -, -, -, -, hsigM⟩ := Cond.codeWith_spec hcode
  have hstatic : methM.isStatic = true := Cond.static_spec hnamed hmethM hstat
  obtain ⟨kP, hkP, -⟩ := className_of_methodNamed hnamed
  have hinitP : kP.init = .initialized := Cond.initialized_spec (findClass_of_methodNamed hnamed) hkP hinit
  obtain ⟨vm₁, X₁, hstep₁⟩ := X.invokestatic hexec hown hlink hnamed hmethM hstatic hkP hinitP hy (g := g) hg (argsL := argsL) (rest := rest) (hlen _ hsigM) hstack hdg
  rcases hK m meth c ⟨T.setVm vm₁, locs, cells, slots⟩ { g with stack := rest } (.invokestatic index) mk argsL.toArray X₁ hg hsize hdg hW (X₁.named hnamed) (hpre vm₁ X₁.warmed) with ⟨v, B, X', hpost, hsteps⟩ | ⟨q, B, X', hpost, hsteps⟩
  · exact Or.inl ⟨v, vm₁, B, X₁.warmed, X', hpost, fun target h => hstep₁ _ fun acts => by rw [doInvoke_state]; exact hsteps.trans h⟩
  · exact Or.inr ⟨q, vm₁, B, X₁.warmed, X', hpost, hstep₁ _ fun acts => by rw [doInvoke_state]; exact hsteps⟩
theorem vx_callVW (X : Stand p l e R s m args below meth c T locs cells slots) (hexec : p.tables.exec = Jvm.exec) {own C : String} {index : Nat} {y : MethodName} {bytes : ByteArray} {maxL : Nat} {ret : Option FieldType} {hh : List (Nat × Nat × Nat × Nat)}
    (hown : s.vm.findClass own = some m.cls) (hlink : (Cond.methodLink own index y).before args s = true) (hinst : (Cond.instanceMethod y).before args s = true) (hsel : (Cond.selects C y y).before args s = true)
    (hcode : (Cond.codeWith y bytes maxL ret hh).before args s = true) (hy : y.cls ≠ "java/lang/invoke/MethodHandle" ∧ y.cls ≠ "java/lang/invoke/VarHandle")
    {W9 : Nat} {Pre : Pt → Array Value → Prop} {Post : Pt → Array Value → Option Value → Pt → Prop} (hK : Back l R p e below s args y 3 W9 Pre Post)
    {b : Addr} {cellB : Cell} (hcell : T.heap[b]? = some cellB) (hobj : cellB.vm.isStatics = false) (hcls : s.vm.findClass C = some cellB.cls)
    {g : JFrame} (hg : g.method = m) (hsize : g.locals.size = c.maxLocals) {argsL rest : List Value} (hlen : ∀ sig, parseMethodDescriptor y.desc = some sig → argsL.length = sig.parameters.length)
    (hstack : g.stack = argsL.reverse ++ .ref b :: rest) (hW : 2 * g.monitorRoom + (rest.map fun v => v.category).sum ≤ W9) (hdg : decode c.code g.pc = .ok (.invokevirtual index, 3))
    (hpre : ∀ vm₁, s.WarmedH vm₁ → Pre ⟨T.setVm vm₁, locs, cells, slots⟩ (Value.ref b :: argsL).toArray) :
    ∃ (v : Option Value) (vm₁ : Vm) (B : Pt), s.WarmedH vm₁ ∧ Stand p l e R s m args below meth c B.U B.locs B.cells B.slots ∧ Post ⟨T.setVm vm₁, locs, cells, slots⟩ (Value.ref b :: argsL).toArray v B ∧
      ∀ target, Steps p.tables e below (B.U.setTop { g with pc := g.pc + 3, stack := v.toList ++ rest }) target → Steps p.tables e below (T.setTop g) target := by
  obtain ⟨mk, methM, hnamed, hmethM, hstM, habM⟩ := Cond.instanceMethod_spec hinst
  obtain ⟨m8, methM', cM, hn8, hmethM', -, -, -, -, -, -, hsigM⟩ := Cond.codeWith_spec hcode
  cases Option.some.inj (hn8.symm.trans hnamed)
  cases hmethM.symm.trans hmethM'
  obtain ⟨c2, r2, m2, q1, q2, q3, q4, kP, hkP, hkPi⟩ := Cond.selects_spec hsel
  cases hcls.symm.trans q1
  cases (State.methodFound?_of_named hnamed hy).symm.trans q2
  cases hnamed.symm.trans q3
  have hselP : selectMethod e.platform s.vm cellB.cls mk = .method mk := by rw [Launch.admits_selectMethod X.admits]; exact q4
  obtain ⟨vm₁, X₁, hstep₁⟩ := X.invokevirtual hexec hown hlink hnamed hmethM hstM hkP hkPi hy (a := b) (cell := cellB) hcell
    (fun z h => by rw [h] at hobj; cases hobj) hselP hmethM habM hkP hkPi (g := g) hg (argsL := argsL) (rest := rest) (hlen _ hsigM) hstack hdg
  obtain ⟨v, B, X', hpost, hsteps⟩ := hK m meth c ⟨T.setVm vm₁, locs, cells, slots⟩ { g with stack := rest } (.invokevirtual index) mk (Value.ref b :: argsL).toArray X₁ hg hsize hdg hW (X₁.named hnamed) (hpre vm₁ X₁.warmed)
  exact ⟨v, vm₁, B, X₁.warmed, X', hpost, fun target h => hstep₁ _ fun acts => by rw [doInvoke_state]; exact hsteps.trans h⟩
abbrev vx_CVW (R : Room) (s : State) (args : Array Value) (own C : String) (index : Nat) (y : MethodName) (bytes : ByteArray) (maxL : Nat) (ret : Option FieldType) (hh : List (Nat × Nat × Nat × Nat)) (ws : List Cond) (rm : Room) (mc ms n : Nat) : Prop :=
  (rm.cells = mc ∧ rm.slots = ms ∧ rm.frames + 1 ≤ R.frames ∧ 8 + (maxL + 11) + rm.locals ≤ R.locals ∧ (∀ w ∈ ws, ∀ (a' : Array Value) (U : State), s.WarmedH U.vm → w.before a' U = true) ∧ Cond.codeWith y bytes maxL ret hh ∈ ws) ∧
  (Cond.codeWith y bytes maxL ret hh).before args s = true ∧ (Cond.initialized y.cls).before args s = true ∧ (y.cls ≠ "java/lang/invoke/MethodHandle" ∧ y.cls ≠ "java/lang/invoke/VarHandle") ∧
  (∀ sig, parseMethodDescriptor y.desc = some sig → n = sig.parameters.length) ∧ (Cond.methodLink own index y).before args s = true ∧ (Cond.instanceMethod y).before args s = true ∧ (Cond.selects C y y).before args s = true
theorem vx_cwVW {own C : String} {index maxL mc ms : Nat} {y : MethodName} {bytes : ByteArray} {ret : Option FieldType} {hh : List (Nat × Nat × Nat × Nat)} {Ts ws ws' : List Cond} {rm : Room} (n : Nat) (ht : ∀ w ∈ Ts, w.before args s = true) (hT : GoodIn Ts (wsV own index C y ws)) (hw : ws = Cond.codeWith y bytes maxL ret hh :: ws') (hrc : rm.cells = mc) (hrs : rm.slots = ms)
    (hd : y.cls = C ∧ y.cls ≠ "java/lang/invoke/MethodHandle" ∧ y.cls ≠ "java/lang/invoke/VarHandle" ∧ (parseMethodDescriptor y.desc).map (fun d => d.parameters.length) = some n) (hR : rm.frames + 1 ≤ R.frames ∧ 8 + (maxL + 11) + rm.locals ≤ R.locals) :
    vx_CVW R s args own C index y bytes maxL ret hh ws rm mc ms n := by
  obtain ⟨hC, hd⟩ := hd
  subst hC
  have ok : ∀ w ∈ wsV own index y.cls y ws, w.before args s = true := fun w h => ht w (hT w h).1
  have hG : GoodIn Ts ws := fun w h => hT w (by unfold wsV; exact List.mem_append_right _ h)
  have hc : Cond.codeWith y bytes maxL ret hh ∈ ws := by rw [hw]; exact List.mem_cons_self
  refine ⟨⟨hrc, hrs, hR.1, hR.2, pay_in ht hG, hc⟩, ht _ (hG _ hc).1, ok _ (by simp [wsV]), ⟨hd.1, hd.2.1⟩, fun sig h => ?_, ok _ (by simp [wsV]), ok _ (by simp [wsV]), ok _ (by simp [wsV])⟩
  have h2 := hd.2.2
  rw [h] at h2
  exact (Option.some.inj h2).symm
theorem vx_runVW {y : MethodName} {bytes cc : ByteArray} {maxL nL mc ms n index : Nat} {ret : Option FieldType} {hh : List (Nat × Nat × Nat × Nat)} {ws : List Cond} {rm : Room} {Pc : Array Value → State → Prop} {Qc : Array Value → State → Outcome → State → Prop} {free : Addr → Prop} {Ts : List Cond} {own C : String} {b : Addr} {As rest : List Value} {g : JFrame}
    (S : CallFix p m c cc nL s args Ts own) (hM : Met l y ws rm Pc Qc mc ms free) (cw : vx_CVW R s args own C index y bytes maxL ret hh ws rm mc ms n) (hp : PreV s H C b Pc As)
    (hg : g.method = m) (hn : As.length = n) (hsize : g.locals.size = nL) (hstack : g.stack = As.reverse ++ .ref b :: rest) (hW : 2 * g.monitorRoom + (rest.map fun v => v.category).sum ≤ 8) (hdg : decode cc g.pc = .ok (.invokevirtual index, 3)) (hf : cells + mc ≤ R.cells ∧ slots + ms ≤ R.slots) :
    va_Run p l e R s m args below meth c H locs cells slots mc ms g rest (Qc (Value.ref b :: As).toArray) free := by
  obtain ⟨⟨hrc, hrs, hfr, hlo, hws, hcw⟩, hcode, hini, hy, hlen, hl, hin, hse⟩ := cw
  have hK : Back l R p e below s args y 3 8 (PreOf R mc ms Pc) (PostOf Qc mc ms free) := va_backW (hh := hh) (bytes := bytes) (maxL := maxL) (ret := ret) hM hp.1 hrc hrs hfr hlo hws hcw (fun a' U hW => word_at hW (Or.inl (by first | rfl | simp [Cond.onTables, Cond.keeps, Cond.steady])) hini)
  obtain ⟨hx, hb, hml, ho, -⟩ := S
  obtain ⟨-, ⟨cellB, hcB, hoB, hclB⟩, hPc⟩ := hp
  intro T hT X
  obtain ⟨v, vm₁, ⟨U', l2, c2, s2⟩, hW₁, X', ⟨g', mk, t, L, e1, e2, hq, h1, hL, h2, h3⟩, st⟩ := vx_callVW X hx (C := C) (hh := hh) (bytes := bytes) (maxL := maxL) (ret := ret) ho hl hin hse hcode hy hK (by rw [hT]; exact hcB) hoB hclB hg (hsize.trans hml.symm) (argsL := As) (rest := rest) (fun sig h => hn.trans (hlen sig h)) hstack hW (by rw [hb]; exact hdg)
    (fun vm₁ hW₁ => ⟨hf.1, hf.2, hPc (T.setVm vm₁) hT hW₁⟩)
  dsimp only [Pt.U, Pt.locs, Pt.cells, Pt.slots] at X' e1 e2 h1 h2 h3 st
  subst h1; subst h2; subst h3
  exact ⟨v, (T.setVm vm₁).calling g' mk (Value.ref b :: As).toArray, t, U', L, hT, X', hL, e1, e2, hq, st⟩
section
variable {y : MethodName} {bytes cc : ByteArray} {maxL nL mc ms n index : Nat} {ret : Option FieldType} {ws : List Cond} {rm : Room} {Pc : Array Value → State → Prop} {Qc : Array Value → State → Outcome → State → Prop} {XC : String → State → State → Prop} {free : Addr → Prop} {Ts : List Cond} {own C : String} {b : Addr} {As rest : List Value} {g : JFrame}
theorem vx_runVX {hh : List (Nat × Nat × Nat × Nat)} (S : CallFix p m c cc nL s args Ts own) (hM : vx_Met l y ws rm Pc Qc XC mc ms free) (cw : vx_CVW R s args own C index y bytes maxL ret hh ws rm mc ms n) (hp : PreV s H C b Pc As)
    (hg : g.method = m) (hn : As.length = n) (hsize : g.locals.size = nL) (hstack : g.stack = As.reverse ++ .ref b :: rest) (hW : 2 * g.monitorRoom + (rest.map fun v => v.category).sum ≤ 8) (hdg : decode cc g.pc = .ok (.invokevirtual index, 3)) (hf : cells + mc ≤ R.cells ∧ slots + ms ≤ R.slots) :
    vx_Run p l e R s m args below meth c H locs cells slots mc ms g rest (Qc (Value.ref b :: As).toArray) XC free := by
  obtain ⟨⟨hrc, hrs, hfr, hlo, hws, hcw⟩, hcode, hini, hy, hlen, hl, hin, hse⟩ := cw
  have hK : vx_Back l R p e below s args y 3 8 (PreOf R mc ms Pc) (PostOf Qc mc ms free) (vx_Post XC mc ms free) := vx_backW (hh := hh) (bytes := bytes) (maxL := maxL) (ret := ret) hM hp.1 hrc hrs hfr hlo hws hcw (fun a' U hW => word_at hW (Or.inl (by first | rfl | simp [Cond.onTables, Cond.keeps, Cond.steady])) hini)
  obtain ⟨hx, hb, hml, ho, -⟩ := S
  obtain ⟨-, ⟨cellB, hcB, hoB, hclB⟩, hPc⟩ := hp
  intro T hT X
  rcases vx_callVX X hx (C := C) (hh := hh) (bytes := bytes) (maxL := maxL) (ret := ret) ho hl hin hse hcode hy hK (by rw [hT]; exact hcB) hoB hclB hg (hsize.trans hml.symm) (argsL := As) (rest := rest) (fun sig h => hn.trans (hlen sig h)) hstack hW (by rw [hb]; exact hdg)
    (fun vm₁ hW₁ => ⟨hf.1, hf.2, hPc (T.setVm vm₁) hT hW₁⟩) with ⟨v, vm₁, ⟨U', l2, c2, s2⟩, hW₁, X', ⟨g', mk, t, L, e1, e2, hq, h1, hL, h2, h3⟩, st⟩ | ⟨q, vm₁, ⟨U', l2, c2, s2⟩, hW₁, X', ⟨g', mk, t, L, E, ce, e1, e2, hq, hce, hcv, hcl, h1, hL, h2, h3⟩, st⟩
  · dsimp only [Pt.U, Pt.locs, Pt.cells, Pt.slots] at X' e1 e2 h1 h2 h3 st
    subst h1; subst h2; subst h3
    exact Or.inl ⟨v, (T.setVm vm₁).calling g' mk (Value.ref b :: As).toArray, t, U', L, hT, X', hL, e1, e2, hq, st⟩
  · dsimp only [Pt.U, Pt.locs, Pt.cells, Pt.slots] at X' e1 e2 h1 h2 h3 st hcl
    subst h1; subst h2; subst h3
    exact Or.inr ⟨q, (T.setVm vm₁).calling g' mk (Value.ref b :: As).toArray, t, U', L, E, ce, hT, X', hL, e1, e2, hq, hce, hcv, vx_cls hW₁ hcl, st⟩
theorem vx_runSX {hh : List (Nat × Nat × Nat × Nat)} (S : CallFix p m c cc nL s args Ts own) (hM : vx_Met l y ws rm Pc Qc XC mc ms free) (cw : vx_CSW R s args own index y bytes maxL ret hh ws rm mc ms n) (hp : PreS s H Pc As)
    (hg : g.method = m) (hn : As.length = n) (hsize : g.locals.size = nL) (hstack : g.stack = As.reverse ++ rest) (hW : 2 * g.monitorRoom + (rest.map fun v => v.category).sum ≤ 8) (hdg : decode cc g.pc = .ok (.invokestatic index, 3)) (hf : cells + mc ≤ R.cells ∧ slots + ms ≤ R.slots) :
    vx_Run p l e R s m args below meth c H locs cells slots mc ms g rest (Qc As.toArray) XC free := by
  obtain ⟨⟨hrc, hrs, hfr, hlo, hws, hcw⟩, hcode, hini, hy, hlen, hl, hstt⟩ := cw
  have hK : vx_Back l R p e below s args y 3 8 (PreOf R mc ms Pc) (PostOf Qc mc ms free) (vx_Post XC mc ms free) := vx_backW (hh := hh) (bytes := bytes) (maxL := maxL) (ret := ret) hM hp.1 hrc hrs hfr hlo hws hcw (fun a' U hW => word_at hW (Or.inl (by first | rfl | simp [Cond.onTables, Cond.keeps, Cond.steady])) hini)
  obtain ⟨hx, hb, hml, ho, -⟩ := S
  intro T hT X
  rcases vx_callSX X hx (hh := hh) (bytes := bytes) (maxL := maxL) (ret := ret) ho hl hstt hini hcode hy hK hg (hsize.trans hml.symm) (argsL := As) (rest := rest) (fun sig h => hn.trans (hlen sig h)) hstack hW (by rw [hb]; exact hdg)
    (fun vm₁ hW₁ => ⟨hf.1, hf.2, hp.2 (T.setVm vm₁) hT hW₁⟩) with ⟨v, vm₁, ⟨U', l2, c2, s2⟩, hW₁, X', ⟨g', mk, t, L, e1, e2, hq, h1, hL, h2, h3⟩, st⟩ | ⟨q, vm₁, ⟨U', l2, c2, s2⟩, hW₁, X', ⟨g', mk, t, L, E, ce, e1, e2, hq, hce, hcv, hcl, h1, hL, h2, h3⟩, st⟩
  · dsimp only [Pt.U, Pt.locs, Pt.cells, Pt.slots] at X' e1 e2 h1 h2 h3 st
    subst h1; subst h2; subst h3
    exact Or.inl ⟨v, (T.setVm vm₁).calling g' mk As.toArray, t, U', L, hT, X', hL, e1, e2, hq, st⟩
  · dsimp only [Pt.U, Pt.locs, Pt.cells, Pt.slots] at X' e1 e2 h1 h2 h3 st hcl
    subst h1; subst h2; subst h3
    exact Or.inr ⟨q, (T.setVm vm₁).calling g' mk As.toArray, t, U', L, E, ce, hT, X', hL, e1, e2, hq, hce, hcv, vx_cls hW₁ hcl, st⟩
end
end VXH
theorem vx_ofWH {l : Launch} {y : MethodName} {ws ws' : List Cond} {rm : Room} {Pc : Array Value → State → Prop} {Qc : Array Value → State → Outcome → State → Prop} {XC : String → State → State → Prop} {mc ms : Nat} {free : Addr → Prop} {cc : ByteArray} {maxL : Nat} {ret : Option FieldType} {hh : List (Nat × Nat × Nat × Nat)}
    (hy : plainName y.cls = true) (hw : ws = Cond.codeWith y cc maxL ret hh :: ws')
    (body : ∀ p e s m args below meth c s₁, BodyLoose p l y (headSpec ws rm) cc maxL ret e s m args below meth c s₁ → c.maxLocals = maxL → Pc args s →
      W p l e (headSpec ws rm).room s m args below meth c s.heap [] 0 0 (vx_MQ below Qc XC args s mc ms free) (entryFrame m args maxL)) : vx_Met l y ws rm Pc Qc XC mc ms free := by
  refine MetFree.of_bodyS (code := cc) (maxLocals := maxL) (ret := ret) hy ?_ ?_
  · intro args s m h hn
    obtain ⟨m9, meth, c, hn9, h1, h2, h3, h4, -, h5, h6, -⟩ := Cond.codeWith_spec (atoms_spec (ws := ws) h _ (by rw [hw]; exact List.mem_cons_self))
    cases hn.symm.trans hn9
    exact ⟨meth, c, h1, h2, h3, h4, h5, h6⟩
  · intro p e s m args below meth c s₁ B hml hP _
    have hh0 : s₁.heap = s.heap := by rw [B.state]; rfl
    obtain ⟨t, a1, o, b1, b2, b3⟩ := body p e s m args below meth c s₁ B hml hP s₁ hh0 (Stand.of_body B)
    exact ⟨t, o, a1, b1, b2, b3⟩
/-! ===== END ===== -/
end
section
-- ===== PART A: goes FIRST, ahead of the names: the tables' words, and 'selects' of the private methods out of them =====
/-- a private method of a class that the tables say can be made, by its rows of tables_1 -/
def lw_okq (q : MethodName × Nat) : Prop := (q.1.cls ≠ "java/lang/invoke/MethodHandle" ∧ q.1.cls ≠ "java/lang/invoke/VarHandle") ∧ Cond.instantiable q.1.cls q.2 ∈ tables_1 ∧ Cond.privateMethod q.1 ∈ tables_1 ∧ Cond.instanceMethod q.1 ∈ tables_1
theorem lw_p0 : lw_okq (⟨"ExchangeRecords$Input", "wrongDigit", "(II)I"⟩, 3) := ⟨⟨by decide +kernel, by decide +kernel⟩, List.mem_of_getElem? (i := 24) (by decide +kernel), List.mem_of_getElem? (i := 130) (by decide +kernel), List.mem_of_getElem? (i := 131) (by decide +kernel)⟩
theorem lw_p1 : lw_okq (⟨"ExchangeRecords", "refuse", "(II)I"⟩, 8) := ⟨⟨by decide +kernel, by decide +kernel⟩, List.mem_of_getElem? (i := 16) (by decide +kernel), List.mem_of_getElem? (i := 145) (by decide +kernel), List.mem_of_getElem? (i := 146) (by decide +kernel)⟩
theorem lw_p2 : lw_okq (⟨"ExchangeRecords$Input", "wrongInLeader", "(I)I"⟩, 3) := ⟨⟨by decide +kernel, by decide +kernel⟩, List.mem_of_getElem? (i := 24) (by decide +kernel), List.mem_of_getElem? (i := 158) (by decide +kernel), List.mem_of_getElem? (i := 159) (by decide +kernel)⟩
theorem lw_p3 : lw_okq (⟨"ExchangeRecords$Input", "wrongInRow", "(III)I"⟩, 3) := ⟨⟨by decide +kernel, by decide +kernel⟩, List.mem_of_getElem? (i := 24) (by decide +kernel), List.mem_of_getElem? (i := 165) (by decide +kernel), List.mem_of_getElem? (i := 166) (by decide +kernel)⟩
theorem lw_p4 : lw_okq (⟨"ExchangeRecords$Input", "wrongInControlField", "(II)I"⟩, 3) := ⟨⟨by decide +kernel, by decide +kernel⟩, List.mem_of_getElem? (i := 24) (by decide +kernel), List.mem_of_getElem? (i := 172) (by decide +kernel), List.mem_of_getElem? (i := 173) (by decide +kernel)⟩
theorem lw_p5 : lw_okq (⟨"ExchangeRecords$Input", "firstMark", "(II)I"⟩, 3) := ⟨⟨by decide +kernel, by decide +kernel⟩, List.mem_of_getElem? (i := 24) (by decide +kernel), List.mem_of_getElem? (i := 176) (by decide +kernel), List.mem_of_getElem? (i := 177) (by decide +kernel)⟩
theorem lw_p6 : lw_okq (⟨"ExchangeRecords$Input", "wrongEnd", "(I)I"⟩, 3) := ⟨⟨by decide +kernel, by decide +kernel⟩, List.mem_of_getElem? (i := 24) (by decide +kernel), List.mem_of_getElem? (i := 183) (by decide +kernel), List.mem_of_getElem? (i := 184) (by decide +kernel)⟩
theorem lw_p7 : lw_okq (⟨"ExchangeRecords$Input", "wrongInOtherField", "(II)I"⟩, 3) := ⟨⟨by decide +kernel, by decide +kernel⟩, List.mem_of_getElem? (i := 24) (by decide +kernel), List.mem_of_getElem? (i := 187) (by decide +kernel), List.mem_of_getElem? (i := 188) (by decide +kernel)⟩
theorem lw_p8 : lw_okq (⟨"ExchangeRecords", "takeRecord", "()V"⟩, 8) := ⟨⟨by decide +kernel, by decide +kernel⟩, List.mem_of_getElem? (i := 16) (by decide +kernel), List.mem_of_getElem? (i := 191) (by decide +kernel), List.mem_of_getElem? (i := 192) (by decide +kernel)⟩
theorem lw_p9 : lw_okq (⟨"ExchangeRecords", "takeRow", "(II)V"⟩, 8) := ⟨⟨by decide +kernel, by decide +kernel⟩, List.mem_of_getElem? (i := 16) (by decide +kernel), List.mem_of_getElem? (i := 199) (by decide +kernel), List.mem_of_getElem? (i := 200) (by decide +kernel)⟩
theorem lw_p10 : lw_okq (⟨"ExchangeRecords", "takeField", "(LExchangeRecords$Field;III)V"⟩, 8) := ⟨⟨by decide +kernel, by decide +kernel⟩, List.mem_of_getElem? (i := 16) (by decide +kernel), List.mem_of_getElem? (i := 203) (by decide +kernel), List.mem_of_getElem? (i := 204) (by decide +kernel)⟩
theorem lw_p11 : lw_okq (⟨"ExchangeRecords", "numbered", "(I)LExchangeRecords$Field;"⟩, 8) := ⟨⟨by decide +kernel, by decide +kernel⟩, List.mem_of_getElem? (i := 16) (by decide +kernel), List.mem_of_getElem? (i := 238) (by decide +kernel), List.mem_of_getElem? (i := 239) (by decide +kernel)⟩
theorem lw_p12 : lw_okq (⟨"ExchangeRecords", "heldBytes", "()I"⟩, 8) := ⟨⟨by decide +kernel, by decide +kernel⟩, List.mem_of_getElem? (i := 16) (by decide +kernel), List.mem_of_getElem? (i := 287) (by decide +kernel), List.mem_of_getElem? (i := 288) (by decide +kernel)⟩
theorem lw_p13 : lw_okq (⟨"ExchangeRecords", "hasMarkAsIndicator", "()Z"⟩, 8) := ⟨⟨by decide +kernel, by decide +kernel⟩, List.mem_of_getElem? (i := 16) (by decide +kernel), List.mem_of_getElem? (i := 304) (by decide +kernel), List.mem_of_getElem? (i := 305) (by decide +kernel)⟩
theorem lw_p14 : lw_okq (⟨"ExchangeRecords", "emitLeader", "(II)V"⟩, 8) := ⟨⟨by decide +kernel, by decide +kernel⟩, List.mem_of_getElem? (i := 16) (by decide +kernel), List.mem_of_getElem? (i := 319) (by decide +kernel), List.mem_of_getElem? (i := 320) (by decide +kernel)⟩
theorem lw_p15 : lw_okq (⟨"ExchangeRecords", "emitLeaderBytes", "(II)V"⟩, 8) := ⟨⟨by decide +kernel, by decide +kernel⟩, List.mem_of_getElem? (i := 16) (by decide +kernel), List.mem_of_getElem? (i := 331) (by decide +kernel), List.mem_of_getElem? (i := 332) (by decide +kernel)⟩
def lw_privs_1 : List (MethodName × Nat) := [(⟨"ExchangeRecords$Input", "wrongDigit", "(II)I"⟩, 3), (⟨"ExchangeRecords", "refuse", "(II)I"⟩, 8), (⟨"ExchangeRecords$Input", "wrongInLeader", "(I)I"⟩, 3), (⟨"ExchangeRecords$Input", "wrongInRow", "(III)I"⟩, 3), (⟨"ExchangeRecords$Input", "wrongInControlField", "(II)I"⟩, 3), (⟨"ExchangeRecords$Input", "firstMark", "(II)I"⟩, 3), (⟨"ExchangeRecords$Input", "wrongEnd", "(I)I"⟩, 3), (⟨"ExchangeRecords$Input", "wrongInOtherField", "(II)I"⟩, 3), (⟨"ExchangeRecords", "takeRecord", "()V"⟩, 8), (⟨"ExchangeRecords", "takeRow", "(II)V"⟩, 8), (⟨"ExchangeRecords", "takeField", "(LExchangeRecords$Field;III)V"⟩, 8), (⟨"ExchangeRecords", "numbered", "(I)LExchangeRecords$Field;"⟩, 8), (⟨"ExchangeRecords", "heldBytes", "()I"⟩, 8), (⟨"ExchangeRecords", "hasMarkAsIndicator", "()Z"⟩, 8), (⟨"ExchangeRecords", "emitLeader", "(II)V"⟩, 8), (⟨"ExchangeRecords", "emitLeaderBytes", "(II)V"⟩, 8)]
theorem lw_r1 : ∀ q ∈ lw_privs_1, lw_okq q := List.forall_mem_cons.mpr ⟨lw_p0, List.forall_mem_cons.mpr ⟨lw_p1, List.forall_mem_cons.mpr ⟨lw_p2, List.forall_mem_cons.mpr ⟨lw_p3, List.forall_mem_cons.mpr ⟨lw_p4, List.forall_mem_cons.mpr ⟨lw_p5, List.forall_mem_cons.mpr ⟨lw_p6, List.forall_mem_cons.mpr ⟨lw_p7, List.forall_mem_cons.mpr ⟨lw_p8, List.forall_mem_cons.mpr ⟨lw_p9, List.forall_mem_cons.mpr ⟨lw_p10, List.forall_mem_cons.mpr ⟨lw_p11, List.forall_mem_cons.mpr ⟨lw_p12, List.forall_mem_cons.mpr ⟨lw_p13, List.forall_mem_cons.mpr ⟨lw_p14, List.forall_mem_cons.mpr ⟨lw_p15, fun _ h => absurd h List.not_mem_nil⟩⟩⟩⟩⟩⟩⟩⟩⟩⟩⟩⟩⟩⟩⟩⟩
theorem lw_p16 : lw_okq (⟨"ExchangeRecords", "emitDirectory", "()V"⟩, 8) := ⟨⟨by decide +kernel, by decide +kernel⟩, List.mem_of_getElem? (i := 16) (by decide +kernel), List.mem_of_getElem? (i := 336) (by decide +kernel), List.mem_of_getElem? (i := 337) (by decide +kernel)⟩
theorem lw_p17 : lw_okq (⟨"ExchangeRecords", "emitField", "(LExchangeRecords$Field;)V"⟩, 8) := ⟨⟨by decide +kernel, by decide +kernel⟩, List.mem_of_getElem? (i := 16) (by decide +kernel), List.mem_of_getElem? (i := 340) (by decide +kernel), List.mem_of_getElem? (i := 341) (by decide +kernel)⟩
theorem lw_p18 : lw_okq (⟨"java/lang/Throwable", "fillInStackTrace", "(I)Ljava/lang/Throwable;"⟩, 6) := ⟨⟨by decide +kernel, by decide +kernel⟩, List.mem_of_getElem? (i := 375) (by decide +kernel), List.mem_of_getElem? (i := 373) (by decide +kernel), List.mem_of_getElem? (i := 374) (by decide +kernel)⟩
theorem lw_p19 : lw_okq (⟨"ExchangeRecordsModel", "digits", "(II)Z"⟩, 16) := ⟨⟨by decide +kernel, by decide +kernel⟩, List.mem_of_getElem? (i := 444) (by decide +kernel), List.mem_of_getElem? (i := 513) (by decide +kernel), List.mem_of_getElem? (i := 514) (by decide +kernel)⟩
theorem lw_p20 : lw_okq (⟨"ExchangeRecordsModel", "look", "(I)I"⟩, 16) := ⟨⟨by decide +kernel, by decide +kernel⟩, List.mem_of_getElem? (i := 444) (by decide +kernel), List.mem_of_getElem? (i := 517) (by decide +kernel), List.mem_of_getElem? (i := 518) (by decide +kernel)⟩
theorem lw_p21 : lw_okq (⟨"ExchangeRecordsModel", "bad", "(I)Z"⟩, 16) := ⟨⟨by decide +kernel, by decide +kernel⟩, List.mem_of_getElem? (i := 444) (by decide +kernel), List.mem_of_getElem? (i := 521) (by decide +kernel), List.mem_of_getElem? (i := 522) (by decide +kernel)⟩
theorem lw_p22 : lw_okq (⟨"ExchangeRecordsModel", "number", "(II)I"⟩, 16) := ⟨⟨by decide +kernel, by decide +kernel⟩, List.mem_of_getElem? (i := 444) (by decide +kernel), List.mem_of_getElem? (i := 525) (by decide +kernel), List.mem_of_getElem? (i := 526) (by decide +kernel)⟩
theorem lw_p23 : lw_okq (⟨"ExchangeRecordsModel", "reads", "(I)Z"⟩, 16) := ⟨⟨by decide +kernel, by decide +kernel⟩, List.mem_of_getElem? (i := 444) (by decide +kernel), List.mem_of_getElem? (i := 529) (by decide +kernel), List.mem_of_getElem? (i := 530) (by decide +kernel)⟩
theorem lw_p24 : lw_okq (⟨"ExchangeRecordsModel", "must", "(II)Z"⟩, 16) := ⟨⟨by decide +kernel, by decide +kernel⟩, List.mem_of_getElem? (i := 444) (by decide +kernel), List.mem_of_getElem? (i := 533) (by decide +kernel), List.mem_of_getElem? (i := 534) (by decide +kernel)⟩
theorem lw_p25 : lw_okq (⟨"ExchangeRecordsModel", "heads", "(II)Z"⟩, 16) := ⟨⟨by decide +kernel, by decide +kernel⟩, List.mem_of_getElem? (i := 444) (by decide +kernel), List.mem_of_getElem? (i := 537) (by decide +kernel), List.mem_of_getElem? (i := 538) (by decide +kernel)⟩
theorem lw_p26 : lw_okq (⟨"ExchangeRecordsModel", "row", "(III)Z"⟩, 16) := ⟨⟨by decide +kernel, by decide +kernel⟩, List.mem_of_getElem? (i := 444) (by decide +kernel), List.mem_of_getElem? (i := 541) (by decide +kernel), List.mem_of_getElem? (i := 542) (by decide +kernel)⟩
theorem lw_p27 : lw_okq (⟨"ExchangeRecordsModel", "control", "(II)Z"⟩, 16) := ⟨⟨by decide +kernel, by decide +kernel⟩, List.mem_of_getElem? (i := 444) (by decide +kernel), List.mem_of_getElem? (i := 545) (by decide +kernel), List.mem_of_getElem? (i := 546) (by decide +kernel)⟩
theorem lw_p28 : lw_okq (⟨"ExchangeRecordsModel", "data", "(II)Z"⟩, 16) := ⟨⟨by decide +kernel, by decide +kernel⟩, List.mem_of_getElem? (i := 444) (by decide +kernel), List.mem_of_getElem? (i := 552) (by decide +kernel), List.mem_of_getElem? (i := 553) (by decide +kernel)⟩
theorem lw_p29 : lw_okq (⟨"ExchangeRecordsModel", "keep", "()V"⟩, 16) := ⟨⟨by decide +kernel, by decide +kernel⟩, List.mem_of_getElem? (i := 444) (by decide +kernel), List.mem_of_getElem? (i := 556) (by decide +kernel), List.mem_of_getElem? (i := 557) (by decide +kernel)⟩
theorem lw_p30 : lw_okq (⟨"ExchangeRecordsModel", "isField", "(I)Z"⟩, 16) := ⟨⟨by decide +kernel, by decide +kernel⟩, List.mem_of_getElem? (i := 444) (by decide +kernel), List.mem_of_getElem? (i := 568) (by decide +kernel), List.mem_of_getElem? (i := 569) (by decide +kernel)⟩
theorem lw_p31 : lw_okq (⟨"ExchangeRecordsModel", "at", "(II)I"⟩, 16) := ⟨⟨by decide +kernel, by decide +kernel⟩, List.mem_of_getElem? (i := 444) (by decide +kernel), List.mem_of_getElem? (i := 572) (by decide +kernel), List.mem_of_getElem? (i := 573) (by decide +kernel)⟩
def lw_privs_2 : List (MethodName × Nat) := [(⟨"ExchangeRecords", "emitDirectory", "()V"⟩, 8), (⟨"ExchangeRecords", "emitField", "(LExchangeRecords$Field;)V"⟩, 8), (⟨"java/lang/Throwable", "fillInStackTrace", "(I)Ljava/lang/Throwable;"⟩, 6), (⟨"ExchangeRecordsModel", "digits", "(II)Z"⟩, 16), (⟨"ExchangeRecordsModel", "look", "(I)I"⟩, 16), (⟨"ExchangeRecordsModel", "bad", "(I)Z"⟩, 16), (⟨"ExchangeRecordsModel", "number", "(II)I"⟩, 16), (⟨"ExchangeRecordsModel", "reads", "(I)Z"⟩, 16), (⟨"ExchangeRecordsModel", "must", "(II)Z"⟩, 16), (⟨"ExchangeRecordsModel", "heads", "(II)Z"⟩, 16), (⟨"ExchangeRecordsModel", "row", "(III)Z"⟩, 16), (⟨"ExchangeRecordsModel", "control", "(II)Z"⟩, 16), (⟨"ExchangeRecordsModel", "data", "(II)Z"⟩, 16), (⟨"ExchangeRecordsModel", "keep", "()V"⟩, 16), (⟨"ExchangeRecordsModel", "isField", "(I)Z"⟩, 16), (⟨"ExchangeRecordsModel", "at", "(II)I"⟩, 16)]
theorem lw_r2 : ∀ q ∈ lw_privs_2, lw_okq q := List.forall_mem_cons.mpr ⟨lw_p16, List.forall_mem_cons.mpr ⟨lw_p17, List.forall_mem_cons.mpr ⟨lw_p18, List.forall_mem_cons.mpr ⟨lw_p19, List.forall_mem_cons.mpr ⟨lw_p20, List.forall_mem_cons.mpr ⟨lw_p21, List.forall_mem_cons.mpr ⟨lw_p22, List.forall_mem_cons.mpr ⟨lw_p23, List.forall_mem_cons.mpr ⟨lw_p24, List.forall_mem_cons.mpr ⟨lw_p25, List.forall_mem_cons.mpr ⟨lw_p26, List.forall_mem_cons.mpr ⟨lw_p27, List.forall_mem_cons.mpr ⟨lw_p28, List.forall_mem_cons.mpr ⟨lw_p29, List.forall_mem_cons.mpr ⟨lw_p30, List.forall_mem_cons.mpr ⟨lw_p31, fun _ h => absurd h List.not_mem_nil⟩⟩⟩⟩⟩⟩⟩⟩⟩⟩⟩⟩⟩⟩⟩⟩
theorem lw_p32 : lw_okq (⟨"ExchangeRecordsModel", "together", "()I"⟩, 16) := ⟨⟨by decide +kernel, by decide +kernel⟩, List.mem_of_getElem? (i := 444) (by decide +kernel), List.mem_of_getElem? (i := 603) (by decide +kernel), List.mem_of_getElem? (i := 604) (by decide +kernel)⟩
theorem lw_p33 : lw_okq (⟨"ExchangeRecordsModel", "append", "(II)V"⟩, 16) := ⟨⟨by decide +kernel, by decide +kernel⟩, List.mem_of_getElem? (i := 444) (by decide +kernel), List.mem_of_getElem? (i := 607) (by decide +kernel), List.mem_of_getElem? (i := 608) (by decide +kernel)⟩
theorem lw_p34 : lw_okq (⟨"ExchangeRecordsModel", "sayNumber", "(II)V"⟩, 16) := ⟨⟨by decide +kernel, by decide +kernel⟩, List.mem_of_getElem? (i := 444) (by decide +kernel), List.mem_of_getElem? (i := 615) (by decide +kernel), List.mem_of_getElem? (i := 616) (by decide +kernel)⟩
theorem lw_p35 : lw_okq (⟨"ExchangeRecordsModel", "say", "(I)V"⟩, 16) := ⟨⟨by decide +kernel, by decide +kernel⟩, List.mem_of_getElem? (i := 444) (by decide +kernel), List.mem_of_getElem? (i := 619) (by decide +kernel), List.mem_of_getElem? (i := 620) (by decide +kernel)⟩
def lw_privs_3 : List (MethodName × Nat) := [(⟨"ExchangeRecordsModel", "together", "()I"⟩, 16), (⟨"ExchangeRecordsModel", "append", "(II)V"⟩, 16), (⟨"ExchangeRecordsModel", "sayNumber", "(II)V"⟩, 16), (⟨"ExchangeRecordsModel", "say", "(I)V"⟩, 16)]
theorem lw_r3 : ∀ q ∈ lw_privs_3, lw_okq q := List.forall_mem_cons.mpr ⟨lw_p32, List.forall_mem_cons.mpr ⟨lw_p33, List.forall_mem_cons.mpr ⟨lw_p34, List.forall_mem_cons.mpr ⟨lw_p35, fun _ h => absurd h List.not_mem_nil⟩⟩⟩⟩
def lw_privs : List (MethodName × Nat) := lw_privs_1 ++ (lw_privs_2 ++ (lw_privs_3))
def lw_tbl : List Cond := k2_sels lw_privs ++ tables_1
theorem lw_privs_ok : ∀ q ∈ lw_privs, lw_okq q := by
  show ∀ q ∈ lw_privs_1 ++ (lw_privs_2 ++ (lw_privs_3)), lw_okq q
  exact List.forall_mem_append.mpr ⟨lw_r1, List.forall_mem_append.mpr ⟨lw_r2, lw_r3⟩⟩
end
section
def RX0 : String := "ExchangeRecords$Field"
def TX0 : u_T := fun k => match k with
  | 0 => ("ExchangeRecords$Field", "tag", "I", false)
  | 1 => ("ExchangeRecords$Field", "first", "I", false)
  | 2 => ("ExchangeRecords$Field", "second", "I", false)
  | 3 => ("ExchangeRecords$Field", "bytes", "[B", false)
  | 4 => ("ExchangeRecords$Field", "size", "I", false)
  | _ => ("ExchangeRecords$Field", "subfields", "I", false)
def tyX0 : Nat → FieldType := fun k => match k with
  | 0 => .int
  | 1 => .int
  | 2 => .int
  | 3 => .array .byte
  | 4 => .int
  | _ => .int
abbrev wsX00 : List Cond := u_ws RX0 TX0 6
theorem nmX0 : ∀ a, a < 6 → ∀ b, b < 6 → a ≠ b → (TX0 a).2.1 ≠ (TX0 b).2.1 := by decide +kernel
theorem tyX0_ok : ∀ k, k < 6 → parseFieldDescriptor (TX0 k).2.2.1 = some (tyX0 k) := by decide +kernel
abbrev cX0_init : ByteArray := prog_2_method_1_code
def yX0_init : MethodName := ⟨RX0, "<init>", "()V"⟩
abbrev cX0_begin : ByteArray := prog_2_method_2_code
def yX0_begin : MethodName := ⟨RX0, "begin", "(III)V"⟩
abbrev cX0_append : ByteArray := prog_2_method_3_code
def yX0_append : MethodName := ⟨RX0, "append", "(I)V"⟩
abbrev cX0_at : ByteArray := prog_2_method_4_code
def yX0_at : MethodName := ⟨RX0, "at", "(I)I"⟩
abbrev cX0_indicatorCount : ByteArray := prog_2_method_5_code
def yX0_indicatorCount : MethodName := ⟨RX0, "indicatorCount", "()I"⟩
abbrev cX0_heldBytes : ByteArray := prog_2_method_6_code
def yX0_heldBytes : MethodName := ⟨RX0, "heldBytes", "()I"⟩
abbrev cX0_writtenSize : ByteArray := prog_2_method_7_code
def yX0_writtenSize : MethodName := ⟨RX0, "writtenSize", "()I"⟩
abbrev cX0_subfieldStart : ByteArray := prog_2_method_8_code
def yX0_subfieldStart : MethodName := ⟨RX0, "subfieldStart", "(II)I"⟩
abbrev cX0_subfieldEnd : ByteArray := prog_2_method_9_code
def yX0_subfieldEnd : MethodName := ⟨RX0, "subfieldEnd", "(I)I"⟩
abbrev cX0_lastCode : ByteArray := prog_2_method_10_code
def yX0_lastCode : MethodName := ⟨RX0, "lastCode", "()I"⟩
def RX1 : String := "ExchangeRecords$Input"
def TX1 : u_T := fun k => match k with
  | 0 => ("ExchangeRecords$Input", "bytes", "[B", true)
  | 1 => ("ExchangeRecords$Input", "size", "I", false)
  | _ => ("ExchangeRecords$Input", "place", "I", false)
def tyX1 : Nat → FieldType := fun k => match k with
  | 0 => .array .byte
  | 1 => .int
  | _ => .int
abbrev wsX10 : List Cond := u_ws RX1 TX1 3
theorem nmX1 : ∀ a, a < 3 → ∀ b, b < 3 → a ≠ b → (TX1 a).2.1 ≠ (TX1 b).2.1 := by decide +kernel
theorem tyX1_ok : ∀ k, k < 3 → parseFieldDescriptor (TX1 k).2.2.1 = some (tyX1 k) := by decide +kernel
abbrev cX1_init : ByteArray := prog_3_method_1_code
def yX1_init : MethodName := ⟨RX1, "<init>", "()V"⟩
abbrev cX1_append : ByteArray := prog_3_method_2_code
def yX1_append : MethodName := ⟨RX1, "append", "(B)V"⟩
abbrev cX1_left : ByteArray := prog_3_method_3_code
def yX1_left : MethodName := ⟨RX1, "left", "()I"⟩
abbrev cX1_skip : ByteArray := prog_3_method_4_code
def yX1_skip : MethodName := ⟨RX1, "skip", "(I)V"⟩
abbrev cX1_at : ByteArray := prog_3_method_5_code
def yX1_at : MethodName := ⟨RX1, "at", "(I)I"⟩
abbrev cX1_number : ByteArray := prog_3_method_6_code
def yX1_number : MethodName := ⟨RX1, "number", "(II)I"⟩
abbrev cX1_wrongInTotal : ByteArray := prog_3_method_7_code
def yX1_wrongInTotal : MethodName := ⟨RX1, "wrongInTotal", "()I"⟩
abbrev cX1_wrongInRecord : ByteArray := prog_3_method_8_code
def yX1_wrongInRecord : MethodName := ⟨RX1, "wrongInRecord", "(I)I"⟩
abbrev cX1_wrongInLeader : ByteArray := prog_3_method_9_code
def yX1_wrongInLeader : MethodName := ⟨RX1, "wrongInLeader", "(I)I"⟩
abbrev cX1_wrongInRow : ByteArray := prog_3_method_10_code
def yX1_wrongInRow : MethodName := ⟨RX1, "wrongInRow", "(III)I"⟩
abbrev cX1_wrongInControlField : ByteArray := prog_3_method_11_code
def yX1_wrongInControlField : MethodName := ⟨RX1, "wrongInControlField", "(II)I"⟩
abbrev cX1_wrongInOtherField : ByteArray := prog_3_method_12_code
def yX1_wrongInOtherField : MethodName := ⟨RX1, "wrongInOtherField", "(II)I"⟩
abbrev cX1_wrongEnd : ByteArray := prog_3_method_13_code
def yX1_wrongEnd : MethodName := ⟨RX1, "wrongEnd", "(I)I"⟩
abbrev cX1_wrongDigit : ByteArray := prog_3_method_14_code
def yX1_wrongDigit : MethodName := ⟨RX1, "wrongDigit", "(II)I"⟩
abbrev cX1_firstMark : ByteArray := prog_3_method_15_code
def yX1_firstMark : MethodName := ⟨RX1, "firstMark", "(II)I"⟩
def RX2 : String := "ExchangeRecords$Output"
def TX2 : u_T := fun k => match k with
  | 0 => ("ExchangeRecords$Output", "bytes", "[B", false)
  | _ => ("ExchangeRecords$Output", "size", "I", false)
def tyX2 : Nat → FieldType := fun k => match k with
  | 0 => .array .byte
  | _ => .int
abbrev wsX20 : List Cond := u_ws RX2 TX2 2
theorem nmX2 : ∀ a, a < 2 → ∀ b, b < 2 → a ≠ b → (TX2 a).2.1 ≠ (TX2 b).2.1 := by decide +kernel
theorem tyX2_ok : ∀ k, k < 2 → parseFieldDescriptor (TX2 k).2.2.1 = some (tyX2 k) := by decide +kernel
abbrev cX2_init : ByteArray := prog_4_method_1_code
def yX2_init : MethodName := ⟨RX2, "<init>", "()V"⟩
abbrev cX2_begin : ByteArray := prog_4_method_2_code
def yX2_begin : MethodName := ⟨RX2, "begin", "(I)V"⟩
abbrev cX2_emit : ByteArray := prog_4_method_3_code
def yX2_emit : MethodName := ⟨RX2, "emit", "(I)V"⟩
abbrev cX2_emitDigits : ByteArray := prog_4_method_4_code
def yX2_emitDigits : MethodName := ⟨RX2, "emitDigits", "(II)V"⟩
abbrev cX2_has : ByteArray := prog_4_method_5_code
def yX2_has : MethodName := ⟨RX2, "has", "(I)Z"⟩
abbrev cX2_at : ByteArray := prog_4_method_6_code
def yX2_at : MethodName := ⟨RX2, "at", "(I)B"⟩
def RX3 : String := "ExchangeRecords"
def TX3 : u_T := fun k => match k with
  | 0 => ("ExchangeRecords", "input", "LExchangeRecords$Input;", true)
  | 1 => ("ExchangeRecords", "output", "LExchangeRecords$Output;", true)
  | 2 => ("ExchangeRecords", "leaderBytes", "[B", true)
  | 3 => ("ExchangeRecords", "fields", "[LExchangeRecords$Field;", true)
  | 4 => ("ExchangeRecords", "rows", "[I", true)
  | 5 => ("ExchangeRecords", "rowCount", "I", false)
  | 6 => ("ExchangeRecords", "present", "Z", false)
  | _ => ("ExchangeRecords", "fieldCount", "I", false)
def tyX3 : Nat → FieldType := fun k => match k with
  | 0 => .object "ExchangeRecords$Input"
  | 1 => .object "ExchangeRecords$Output"
  | 2 => .array .byte
  | 3 => .array (.object "ExchangeRecords$Field")
  | 4 => .array .int
  | 5 => .int
  | 6 => .boolean
  | _ => .int
abbrev wsX30 : List Cond := u_ws RX3 TX3 8
theorem nmX3 : ∀ a, a < 8 → ∀ b, b < 8 → a ≠ b → (TX3 a).2.1 ≠ (TX3 b).2.1 := by decide +kernel
theorem tyX3_ok : ∀ k, k < 8 → parseFieldDescriptor (TX3 k).2.2.1 = some (tyX3 k) := by decide +kernel
abbrev cX3_init : ByteArray := prog_1_method_1_code
def yX3_init : MethodName := ⟨RX3, "<init>", "()V"⟩
abbrev cX3_add : ByteArray := prog_1_method_2_code
def yX3_add : MethodName := ⟨RX3, "add", "(B)V"⟩
abbrev cX3_read : ByteArray := prog_1_method_3_code
def yX3_read : MethodName := ⟨RX3, "read", "()I"⟩
abbrev cX3_field : ByteArray := prog_1_method_4_code
def yX3_field : MethodName := ⟨RX3, "field", "(II)I"⟩
abbrev cX3_indicator : ByteArray := prog_1_method_5_code
def yX3_indicator : MethodName := ⟨RX3, "indicator", "(II)I"⟩
abbrev cX3_subfield : ByteArray := prog_1_method_6_code
def yX3_subfield : MethodName := ⟨RX3, "subfield", "(IIII)I"⟩
abbrev cX3_directory : ByteArray := prog_1_method_7_code
def yX3_directory : MethodName := ⟨RX3, "directory", "(II)I"⟩
abbrev cX3_length : ByteArray := prog_1_method_8_code
def yX3_length : MethodName := ⟨RX3, "length", "()I"⟩
abbrev cX3_leader : ByteArray := prog_1_method_9_code
def yX3_leader : MethodName := ⟨RX3, "leader", "(II)Z"⟩
abbrev cX3_put : ByteArray := prog_1_method_10_code
def yX3_put : MethodName := ⟨RX3, "put", "(II)I"⟩
abbrev cX3_subfield2 : ByteArray := prog_1_method_11_code
def yX3_subfield2 : MethodName := ⟨RX3, "subfield2", "(III)V"⟩
abbrev cX3_write : ByteArray := prog_1_method_12_code
def yX3_write : MethodName := ⟨RX3, "write", "()I"⟩
abbrev cX3_octet : ByteArray := prog_1_method_13_code
def yX3_octet : MethodName := ⟨RX3, "octet", "(I)B"⟩
abbrev cX3_isMark : ByteArray := prog_1_method_14_code
def yX3_isMark : MethodName := ⟨RX3, "isMark", "(I)Z"⟩
abbrev cX3_isDigit : ByteArray := prog_1_method_15_code
def yX3_isDigit : MethodName := ⟨RX3, "isDigit", "(I)Z"⟩
abbrev cX3_isControl : ByteArray := prog_1_method_16_code
def yX3_isControl : MethodName := ⟨RX3, "isControl", "(I)Z"⟩
abbrev cX3_fixedByte : ByteArray := prog_1_method_17_code
def yX3_fixedByte : MethodName := ⟨RX3, "fixedByte", "(I)I"⟩
abbrev cX3_isFree : ByteArray := prog_1_method_18_code
def yX3_isFree : MethodName := ⟨RX3, "isFree", "(I)Z"⟩
abbrev cX3_numbered : ByteArray := prog_1_method_19_code
def yX3_numbered : MethodName := ⟨RX3, "numbered", "(I)LExchangeRecords$Field;"⟩
abbrev cX3_refuse : ByteArray := prog_1_method_20_code
def yX3_refuse : MethodName := ⟨RX3, "refuse", "(II)I"⟩
abbrev cX3_takeRecord : ByteArray := prog_1_method_21_code
def yX3_takeRecord : MethodName := ⟨RX3, "takeRecord", "()V"⟩
abbrev cX3_takeRow : ByteArray := prog_1_method_22_code
def yX3_takeRow : MethodName := ⟨RX3, "takeRow", "(II)V"⟩
abbrev cX3_takeField : ByteArray := prog_1_method_23_code
def yX3_takeField : MethodName := ⟨RX3, "takeField", "(LExchangeRecords$Field;III)V"⟩
abbrev cX3_heldBytes : ByteArray := prog_1_method_24_code
def yX3_heldBytes : MethodName := ⟨RX3, "heldBytes", "()I"⟩
abbrev cX3_hasMarkAsIndicator : ByteArray := prog_1_method_25_code
def yX3_hasMarkAsIndicator : MethodName := ⟨RX3, "hasMarkAsIndicator", "()Z"⟩
abbrev cX3_emitLeader : ByteArray := prog_1_method_26_code
def yX3_emitLeader : MethodName := ⟨RX3, "emitLeader", "(II)V"⟩
abbrev cX3_emitLeaderBytes : ByteArray := prog_1_method_27_code
def yX3_emitLeaderBytes : MethodName := ⟨RX3, "emitLeaderBytes", "(II)V"⟩
abbrev cX3_emitDirectory : ByteArray := prog_1_method_28_code
def yX3_emitDirectory : MethodName := ⟨RX3, "emitDirectory", "()V"⟩
abbrev cX3_emitField : ByteArray := prog_1_method_29_code
def yX3_emitField : MethodName := ⟨RX3, "emitField", "(LExchangeRecords$Field;)V"⟩
def RX4 : String := "ExchangeRecordsModel"
def TX4 : u_T := fun k => match k with
  | 0 => ("ExchangeRecordsModel", "thrown", "I", false)
  | 1 => ("ExchangeRecordsModel", "input", "[B", true)
  | 2 => ("ExchangeRecordsModel", "size", "I", false)
  | 3 => ("ExchangeRecordsModel", "place", "I", false)
  | 4 => ("ExchangeRecordsModel", "there", "Z", false)
  | 5 => ("ExchangeRecordsModel", "leader", "[B", true)
  | 6 => ("ExchangeRecordsModel", "tags", "[I", true)
  | 7 => ("ExchangeRecordsModel", "bytes", "[B", true)
  | 8 => ("ExchangeRecordsModel", "sizes", "[I", true)
  | 9 => ("ExchangeRecordsModel", "fields", "I", false)
  | 10 => ("ExchangeRecordsModel", "rows", "[I", true)
  | 11 => ("ExchangeRecordsModel", "newRows", "[I", true)
  | 12 => ("ExchangeRecordsModel", "rowCount", "I", false)
  | 13 => ("ExchangeRecordsModel", "written", "[B", true)
  | 14 => ("ExchangeRecordsModel", "writtenSize", "I", false)
  | _ => ("ExchangeRecordsModel", "wrong", "I", false)
def tyX4 : Nat → FieldType := fun k => match k with
  | 0 => .int
  | 1 => .array .byte
  | 2 => .int
  | 3 => .int
  | 4 => .boolean
  | 5 => .array .byte
  | 6 => .array .int
  | 7 => .array .byte
  | 8 => .array .int
  | 9 => .int
  | 10 => .array .int
  | 11 => .array .int
  | 12 => .int
  | 13 => .array .byte
  | 14 => .int
  | _ => .int
abbrev wsX40 : List Cond := u_ws RX4 TX4 16
theorem nmX4 : ∀ a, a < 16 → ∀ b, b < 16 → a ≠ b → (TX4 a).2.1 ≠ (TX4 b).2.1 := by decide +kernel
theorem tyX4_ok : ∀ k, k < 16 → parseFieldDescriptor (TX4 k).2.2.1 = some (tyX4 k) := by decide +kernel
abbrev cX4_init : ByteArray := prog_6_method_1_code
def yX4_init : MethodName := ⟨RX4, "<init>", "()V"⟩
abbrev cX4_thrown : ByteArray := prog_6_method_2_code
def yX4_thrown : MethodName := ⟨RX4, "thrown", "()I"⟩
abbrev cX4_add : ByteArray := prog_6_method_3_code
def yX4_add : MethodName := ⟨RX4, "add", "(B)V"⟩
abbrev cX4_look : ByteArray := prog_6_method_4_code
def yX4_look : MethodName := ⟨RX4, "look", "(I)I"⟩
abbrev cX4_bad : ByteArray := prog_6_method_5_code
def yX4_bad : MethodName := ⟨RX4, "bad", "(I)Z"⟩
abbrev cX4_digits : ByteArray := prog_6_method_6_code
def yX4_digits : MethodName := ⟨RX4, "digits", "(II)Z"⟩
abbrev cX4_number : ByteArray := prog_6_method_7_code
def yX4_number : MethodName := ⟨RX4, "number", "(II)I"⟩
abbrev cX4_must : ByteArray := prog_6_method_8_code
def yX4_must : MethodName := ⟨RX4, "must", "(II)Z"⟩
abbrev cX4_isMark : ByteArray := prog_6_method_9_code
def yX4_isMark : MethodName := ⟨RX4, "isMark", "(I)Z"⟩
abbrev cX4_control : ByteArray := prog_6_method_10_code
def yX4_control : MethodName := ⟨RX4, "control", "(II)Z"⟩
abbrev cX4_data : ByteArray := prog_6_method_11_code
def yX4_data : MethodName := ⟨RX4, "data", "(II)Z"⟩
abbrev cX4_row : ByteArray := prog_6_method_12_code
def yX4_row : MethodName := ⟨RX4, "row", "(III)Z"⟩
abbrev cX4_heads : ByteArray := prog_6_method_13_code
def yX4_heads : MethodName := ⟨RX4, "heads", "(II)Z"⟩
abbrev cX4_reads : ByteArray := prog_6_method_14_code
def yX4_reads : MethodName := ⟨RX4, "reads", "(I)Z"⟩
abbrev cX4_keep : ByteArray := prog_6_method_15_code
def yX4_keep : MethodName := ⟨RX4, "keep", "()V"⟩
abbrev cX4_read : ByteArray := prog_6_method_16_code
def yX4_read : MethodName := ⟨RX4, "read", "()I"⟩
abbrev cX4_isField : ByteArray := prog_6_method_17_code
def yX4_isField : MethodName := ⟨RX4, "isField", "(I)Z"⟩
abbrev cX4_at : ByteArray := prog_6_method_18_code
def yX4_at : MethodName := ⟨RX4, "at", "(II)I"⟩
abbrev cX4_field : ByteArray := prog_6_method_19_code
def yX4_field : MethodName := ⟨RX4, "field", "(II)I"⟩
abbrev cX4_indicator : ByteArray := prog_6_method_20_code
def yX4_indicator : MethodName := ⟨RX4, "indicator", "(II)I"⟩
abbrev cX4_subfield : ByteArray := prog_6_method_21_code
def yX4_subfield : MethodName := ⟨RX4, "subfield", "(IIII)I"⟩
abbrev cX4_directory : ByteArray := prog_6_method_22_code
def yX4_directory : MethodName := ⟨RX4, "directory", "(II)I"⟩
abbrev cX4_length : ByteArray := prog_6_method_23_code
def yX4_length : MethodName := ⟨RX4, "length", "()I"⟩
abbrev cX4_isAny : ByteArray := prog_6_method_24_code
def yX4_isAny : MethodName := ⟨RX4, "isAny", "(I)Z"⟩
abbrev cX4_leader : ByteArray := prog_6_method_25_code
def yX4_leader : MethodName := ⟨RX4, "leader", "(II)Z"⟩
abbrev cX4_put : ByteArray := prog_6_method_26_code
def yX4_put : MethodName := ⟨RX4, "put", "(II)I"⟩
abbrev cX4_together : ByteArray := prog_6_method_27_code
def yX4_together : MethodName := ⟨RX4, "together", "()I"⟩
abbrev cX4_append : ByteArray := prog_6_method_28_code
def yX4_append : MethodName := ⟨RX4, "append", "(II)V"⟩
abbrev cX4_subfield2 : ByteArray := prog_6_method_29_code
def yX4_subfield2 : MethodName := ⟨RX4, "subfield2", "(III)V"⟩
abbrev cX4_say : ByteArray := prog_6_method_30_code
def yX4_say : MethodName := ⟨RX4, "say", "(I)V"⟩
abbrev cX4_sayNumber : ByteArray := prog_6_method_31_code
def yX4_sayNumber : MethodName := ⟨RX4, "sayNumber", "(II)V"⟩
abbrev cX4_write : ByteArray := prog_6_method_32_code
def yX4_write : MethodName := ⟨RX4, "write", "()I"⟩
abbrev cX4_octet : ByteArray := prog_6_method_33_code
def yX4_octet : MethodName := ⟨RX4, "octet", "(I)B"⟩
def RJx00060 : String := "java/lang/ArrayIndexOutOfBoundsException"
def TJx00060 : u_T := fun k => match k with
  | 0 => ("java/lang/Throwable", "backtrace", "Ljava/lang/Object;", false)
  | 1 => ("java/lang/Throwable", "detailMessage", "Ljava/lang/String;", false)
  | 2 => ("java/lang/Throwable", "cause", "Ljava/lang/Throwable;", false)
  | 3 => ("java/lang/Throwable", "stackTrace", "[Ljava/lang/StackTraceElement;", false)
  | 4 => ("java/lang/Throwable", "depth", "I", false)
  | _ => ("java/lang/Throwable", "suppressedExceptions", "Ljava/util/List;", false)
def tyJx00060 : Nat → FieldType := fun k => match k with
  | 0 => .object "java/lang/Object"
  | 1 => .object "java/lang/String"
  | 2 => .object "java/lang/Throwable"
  | 3 => .array (.object "java/lang/StackTraceElement")
  | 4 => .int
  | _ => .object "java/util/List"
abbrev wsJx000600 : List Cond := u_ws RJx00060 TJx00060 6
theorem nmJx00060 : ∀ a, a < 6 → ∀ b, b < 6 → a ≠ b → (TJx00060 a).2.1 ≠ (TJx00060 b).2.1 := by decide +kernel
theorem tyJx00060_ok : ∀ k, k < 6 → parseFieldDescriptor (TJx00060 k).2.2.1 = some (tyJx00060 k) := by decide +kernel
abbrev cJx00060_init_a7421 : ByteArray := prog_7_method_2_code
def yJx00060_init_a7421 : MethodName := ⟨RJx00060, "<init>", "(Ljava/lang/String;)V"⟩
def RJx8e188 : String := "java/lang/Cloneable"
def TJx8e188 : u_T := fun k => match k with
  | _ => ("", "", "", false)
def tyJx8e188 : Nat → FieldType := fun k => match k with
  | _ => .int
abbrev wsJx8e1880 : List Cond := u_ws RJx8e188 TJx8e188 0
theorem nmJx8e188 : ∀ a, a < 0 → ∀ b, b < 0 → a ≠ b → (TJx8e188 a).2.1 ≠ (TJx8e188 b).2.1 := by decide +kernel
theorem tyJx8e188_ok : ∀ k, k < 0 → parseFieldDescriptor (TJx8e188 k).2.2.1 = some (tyJx8e188 k) := by decide +kernel
def RJ9 : String := "java/lang/Math"
def TJ9 : u_T := fun k => match k with
  | _ => ("", "", "", false)
def tyJ9 : Nat → FieldType := fun k => match k with
  | _ => .int
abbrev wsJ90 : List Cond := u_ws RJ9 TJ9 0
theorem nmJ9 : ∀ a, a < 0 → ∀ b, b < 0 → a ≠ b → (TJ9 a).2.1 ≠ (TJ9 b).2.1 := by decide +kernel
theorem tyJ9_ok : ∀ k, k < 0 → parseFieldDescriptor (TJ9 k).2.2.1 = some (tyJ9 k) := by decide +kernel
abbrev cJ9_max_7cf53 : ByteArray := prog_11_method_65_code
def yJ9_max_7cf53 : MethodName := ⟨RJ9, "max", "(II)I"⟩
abbrev cJ9_min_7cf53 : ByteArray := prog_11_method_69_code
def yJ9_min_7cf53 : MethodName := ⟨RJ9, "min", "(II)I"⟩
def RJ0 : String := "java/lang/String"
def TJ0 : u_T := fun k => match k with
  | 0 => ("java/lang/String", "value", "[B", true)
  | _ => ("java/lang/String", "coder", "B", true)
def tyJ0 : Nat → FieldType := fun k => match k with
  | 0 => .array .byte
  | _ => .byte
abbrev wsJ00 : List Cond := u_ws RJ0 TJ0 2
theorem nmJ0 : ∀ a, a < 2 → ∀ b, b < 2 → a ≠ b → (TJ0 a).2.1 ≠ (TJ0 b).2.1 := by decide +kernel
theorem tyJ0_ok : ∀ k, k < 2 → parseFieldDescriptor (TJ0 k).2.2.1 = some (tyJ0 k) := by decide +kernel
def RJ10 : String := "java/lang/System"
def TJ10 : u_T := fun k => match k with
  | _ => ("", "", "", false)
def tyJ10 : Nat → FieldType := fun k => match k with
  | _ => .int
abbrev wsJ100 : List Cond := u_ws RJ10 TJ10 0
theorem nmJ10 : ∀ a, a < 0 → ∀ b, b < 0 → a ≠ b → (TJ10 a).2.1 ≠ (TJ10 b).2.1 := by decide +kernel
theorem tyJ10_ok : ∀ k, k < 0 → parseFieldDescriptor (TJ10 k).2.2.1 = some (tyJ10 k) := by decide +kernel
def RJ7 : String := "java/util/Arrays"
def TJ7 : u_T := fun k => match k with
  | _ => ("", "", "", false)
def tyJ7 : Nat → FieldType := fun k => match k with
  | _ => .int
abbrev wsJ70 : List Cond := u_ws RJ7 TJ7 0
theorem nmJ7 : ∀ a, a < 0 → ∀ b, b < 0 → a ≠ b → (TJ7 a).2.1 ≠ (TJ7 b).2.1 := by decide +kernel
theorem tyJ7_ok : ∀ k, k < 0 → parseFieldDescriptor (TJ7 k).2.2.1 = some (tyJ7 k) := by decide +kernel
abbrev cJ7_fill_031fb : ByteArray := prog_16_method_109_code
def yJ7_fill_031fb : MethodName := ⟨RJ7, "fill", "([BB)V"⟩
abbrev cJ7_copyOf_9075b : ByteArray := prog_16_method_121_code
def yJ7_copyOf_9075b : MethodName := ⟨RJ7, "copyOf", "([BI)[B"⟩
def RL : String := "ExchangeRecordsLaw"
abbrev cL_directory : ByteArray := method_3_code
def yL_directory : MethodName := ⟨RL, "directory", "(LExchangeRecords;II[J)I"⟩
abbrev cL_octet : ByteArray := method_4_code
def yL_octet : MethodName := ⟨RL, "octet", "(LExchangeRecords;I[J)I"⟩
abbrev cL_law : ByteArray := code
def yL_law : MethodName := ⟨RL, "law", "([I)Z"⟩
abbrev vwCl : List vw_C := [(RJ0, TJ0, 2), (RJx00060, TJx00060, 6), (RX0, TX0, 6), (RX1, TX1, 3), (RX2, TX2, 2), (RX3, TX3, 8), (RX4, TX4, 16)]
end
section
theorem dX0_init_0 : decode cX0_init 0 = .ok (.aload_n 0, 1) := by decide +kernel
theorem dX0_init_1 : decode cX0_init 1 = .ok (.invokespecial 3, 3) := by decide +kernel
theorem dX0_init_4 : decode cX0_init 4 = .ok (.aload_n 0, 1) := by decide +kernel
theorem dX0_init_5 : decode cX0_init 5 = .ok (.bipush 16, 2) := by decide +kernel
theorem dX0_init_7 : decode cX0_init 7 = .ok (.newarray .byte, 2) := by decide +kernel
theorem dX0_init_9 : decode cX0_init 9 = .ok (.putfield 11, 3) := by decide +kernel
theorem dX0_init_12 : decode cX0_init 12 = .ok (.return_, 1) := by decide +kernel
theorem dX0_begin_0 : decode cX0_begin 0 = .ok (.aload_n 0, 1) := by decide +kernel
theorem dX0_begin_1 : decode cX0_begin 1 = .ok (.iload_n 1, 1) := by decide +kernel
theorem dX0_begin_2 : decode cX0_begin 2 = .ok (.putfield 15, 3) := by decide +kernel
theorem dX0_begin_5 : decode cX0_begin 5 = .ok (.aload_n 0, 1) := by decide +kernel
theorem dX0_begin_6 : decode cX0_begin 6 = .ok (.iload_n 2, 1) := by decide +kernel
theorem dX0_begin_7 : decode cX0_begin 7 = .ok (.putfield 19, 3) := by decide +kernel
theorem dX0_begin_10 : decode cX0_begin 10 = .ok (.aload_n 0, 1) := by decide +kernel
theorem dX0_begin_11 : decode cX0_begin 11 = .ok (.iload_n 3, 1) := by decide +kernel
theorem dX0_begin_12 : decode cX0_begin 12 = .ok (.putfield 22, 3) := by decide +kernel
theorem dX0_begin_15 : decode cX0_begin 15 = .ok (.aload_n 0, 1) := by decide +kernel
theorem dX0_begin_16 : decode cX0_begin 16 = .ok (.iconst 0, 1) := by decide +kernel
theorem dX0_begin_17 : decode cX0_begin 17 = .ok (.putfield 25, 3) := by decide +kernel
theorem dX0_begin_20 : decode cX0_begin 20 = .ok (.aload_n 0, 1) := by decide +kernel
theorem dX0_begin_21 : decode cX0_begin 21 = .ok (.iconst 0, 1) := by decide +kernel
theorem dX0_begin_22 : decode cX0_begin 22 = .ok (.putfield 28, 3) := by decide +kernel
theorem dX0_begin_25 : decode cX0_begin 25 = .ok (.return_, 1) := by decide +kernel
theorem dX0_append_0 : decode cX0_append 0 = .ok (.aload_n 0, 1) := by decide +kernel
theorem dX0_append_1 : decode cX0_append 1 = .ok (.getfield 25, 3) := by decide +kernel
theorem dX0_append_4 : decode cX0_append 4 = .ok (.aload_n 0, 1) := by decide +kernel
theorem dX0_append_5 : decode cX0_append 5 = .ok (.getfield 11, 3) := by decide +kernel
theorem dX0_append_8 : decode cX0_append 8 = .ok (.arraylength, 1) := by decide +kernel
theorem dX0_append_9 : decode cX0_append 9 = .ok (.if_icmp .lt 20, 3) := by decide +kernel
theorem dX0_append_12 : decode cX0_append 12 = .ok (.aload_n 0, 1) := by decide +kernel
theorem dX0_append_13 : decode cX0_append 13 = .ok (.aload_n 0, 1) := by decide +kernel
theorem dX0_append_14 : decode cX0_append 14 = .ok (.getfield 11, 3) := by decide +kernel
theorem dX0_append_17 : decode cX0_append 17 = .ok (.aload_n 0, 1) := by decide +kernel
theorem dX0_append_18 : decode cX0_append 18 = .ok (.getfield 25, 3) := by decide +kernel
theorem dX0_append_21 : decode cX0_append 21 = .ok (.iconst 2, 1) := by decide +kernel
theorem dX0_append_22 : decode cX0_append 22 = .ok (.imul, 1) := by decide +kernel
theorem dX0_append_23 : decode cX0_append 23 = .ok (.invokestatic 31, 3) := by decide +kernel
theorem dX0_append_26 : decode cX0_append 26 = .ok (.putfield 11, 3) := by decide +kernel
theorem dX0_append_29 : decode cX0_append 29 = .ok (.aload_n 0, 1) := by decide +kernel
theorem dX0_append_30 : decode cX0_append 30 = .ok (.getfield 11, 3) := by decide +kernel
theorem dX0_append_33 : decode cX0_append 33 = .ok (.aload_n 0, 1) := by decide +kernel
theorem dX0_append_34 : decode cX0_append 34 = .ok (.getfield 25, 3) := by decide +kernel
theorem dX0_append_37 : decode cX0_append 37 = .ok (.iload_n 1, 1) := by decide +kernel
theorem dX0_append_38 : decode cX0_append 38 = .ok (.i2b, 1) := by decide +kernel
theorem dX0_append_39 : decode cX0_append 39 = .ok (.bastore, 1) := by decide +kernel
theorem dX0_append_40 : decode cX0_append 40 = .ok (.aload_n 0, 1) := by decide +kernel
theorem dX0_append_41 : decode cX0_append 41 = .ok (.dup, 1) := by decide +kernel
theorem dX0_append_42 : decode cX0_append 42 = .ok (.getfield 25, 3) := by decide +kernel
theorem dX0_append_45 : decode cX0_append 45 = .ok (.iconst 1, 1) := by decide +kernel
theorem dX0_append_46 : decode cX0_append 46 = .ok (.iadd, 1) := by decide +kernel
theorem dX0_append_47 : decode cX0_append 47 = .ok (.putfield 25, 3) := by decide +kernel
theorem dX0_append_50 : decode cX0_append 50 = .ok (.iload_n 1, 1) := by decide +kernel
theorem dX0_append_51 : decode cX0_append 51 = .ok (.bipush 31, 2) := by decide +kernel
theorem dX0_append_53 : decode cX0_append 53 = .ok (.if_icmp .ne 13, 3) := by decide +kernel
theorem dX0_append_56 : decode cX0_append 56 = .ok (.aload_n 0, 1) := by decide +kernel
theorem dX0_append_57 : decode cX0_append 57 = .ok (.dup, 1) := by decide +kernel
theorem dX0_append_58 : decode cX0_append 58 = .ok (.getfield 28, 3) := by decide +kernel
theorem dX0_append_61 : decode cX0_append 61 = .ok (.iconst 1, 1) := by decide +kernel
theorem dX0_append_62 : decode cX0_append 62 = .ok (.iadd, 1) := by decide +kernel
theorem dX0_append_63 : decode cX0_append 63 = .ok (.putfield 28, 3) := by decide +kernel
theorem dX0_append_66 : decode cX0_append 66 = .ok (.return_, 1) := by decide +kernel
theorem dX0_at_0 : decode cX0_at 0 = .ok (.iload_n 1, 1) := by decide +kernel
theorem dX0_at_1 : decode cX0_at 1 = .ok (.ifCond .lt 11, 3) := by decide +kernel
theorem dX0_at_4 : decode cX0_at 4 = .ok (.iload_n 1, 1) := by decide +kernel
theorem dX0_at_5 : decode cX0_at 5 = .ok (.aload_n 0, 1) := by decide +kernel
theorem dX0_at_6 : decode cX0_at 6 = .ok (.getfield 25, 3) := by decide +kernel
theorem dX0_at_9 : decode cX0_at 9 = .ok (.if_icmp .lt 7, 3) := by decide +kernel
theorem dX0_at_12 : decode cX0_at 12 = .ok (.iconst (-1), 1) := by decide +kernel
theorem dX0_at_13 : decode cX0_at 13 = .ok (.goto 13, 3) := by decide +kernel
theorem dX0_at_16 : decode cX0_at 16 = .ok (.aload_n 0, 1) := by decide +kernel
theorem dX0_at_17 : decode cX0_at 17 = .ok (.getfield 11, 3) := by decide +kernel
theorem dX0_at_20 : decode cX0_at 20 = .ok (.iload_n 1, 1) := by decide +kernel
theorem dX0_at_21 : decode cX0_at 21 = .ok (.baload, 1) := by decide +kernel
theorem dX0_at_22 : decode cX0_at 22 = .ok (.sipush 255, 3) := by decide +kernel
theorem dX0_at_25 : decode cX0_at 25 = .ok (.iand, 1) := by decide +kernel
theorem dX0_at_26 : decode cX0_at 26 = .ok (.ireturn, 1) := by decide +kernel
theorem dX0_indicatorCount_0 : decode cX0_indicatorCount 0 = .ok (.aload_n 0, 1) := by decide +kernel
theorem dX0_indicatorCount_1 : decode cX0_indicatorCount 1 = .ok (.getfield 15, 3) := by decide +kernel
theorem dX0_indicatorCount_4 : decode cX0_indicatorCount 4 = .ok (.invokestatic 37, 3) := by decide +kernel
theorem dX0_indicatorCount_7 : decode cX0_indicatorCount 7 = .ok (.ifCond .eq 7, 3) := by decide +kernel
theorem dX0_indicatorCount_10 : decode cX0_indicatorCount 10 = .ok (.iconst 0, 1) := by decide +kernel
theorem dX0_indicatorCount_11 : decode cX0_indicatorCount 11 = .ok (.goto 4, 3) := by decide +kernel
theorem dX0_indicatorCount_14 : decode cX0_indicatorCount 14 = .ok (.iconst 2, 1) := by decide +kernel
theorem dX0_indicatorCount_15 : decode cX0_indicatorCount 15 = .ok (.ireturn, 1) := by decide +kernel
theorem dX0_heldBytes_0 : decode cX0_heldBytes 0 = .ok (.aload_n 0, 1) := by decide +kernel
theorem dX0_heldBytes_1 : decode cX0_heldBytes 1 = .ok (.invokevirtual 41, 3) := by decide +kernel
theorem dX0_heldBytes_4 : decode cX0_heldBytes 4 = .ok (.aload_n 0, 1) := by decide +kernel
theorem dX0_heldBytes_5 : decode cX0_heldBytes 5 = .ok (.getfield 25, 3) := by decide +kernel
theorem dX0_heldBytes_8 : decode cX0_heldBytes 8 = .ok (.iadd, 1) := by decide +kernel
theorem dX0_heldBytes_9 : decode cX0_heldBytes 9 = .ok (.aload_n 0, 1) := by decide +kernel
theorem dX0_heldBytes_10 : decode cX0_heldBytes 10 = .ok (.getfield 28, 3) := by decide +kernel
theorem dX0_heldBytes_13 : decode cX0_heldBytes 13 = .ok (.isub, 1) := by decide +kernel
theorem dX0_heldBytes_14 : decode cX0_heldBytes 14 = .ok (.ireturn, 1) := by decide +kernel
theorem dX0_writtenSize_0 : decode cX0_writtenSize 0 = .ok (.aload_n 0, 1) := by decide +kernel
theorem dX0_writtenSize_1 : decode cX0_writtenSize 1 = .ok (.invokevirtual 41, 3) := by decide +kernel
theorem dX0_writtenSize_4 : decode cX0_writtenSize 4 = .ok (.aload_n 0, 1) := by decide +kernel
theorem dX0_writtenSize_5 : decode cX0_writtenSize 5 = .ok (.getfield 25, 3) := by decide +kernel
theorem dX0_writtenSize_8 : decode cX0_writtenSize 8 = .ok (.iadd, 1) := by decide +kernel
theorem dX0_writtenSize_9 : decode cX0_writtenSize 9 = .ok (.iconst 1, 1) := by decide +kernel
theorem dX0_writtenSize_10 : decode cX0_writtenSize 10 = .ok (.iadd, 1) := by decide +kernel
theorem dX0_writtenSize_11 : decode cX0_writtenSize 11 = .ok (.ireturn, 1) := by decide +kernel
theorem dX0_subfieldStart_0 : decode cX0_subfieldStart 0 = .ok (.iconst 0, 1) := by decide +kernel
theorem dX0_subfieldStart_1 : decode cX0_subfieldStart 1 = .ok (.istore_n 3, 1) := by decide +kernel
theorem dX0_subfieldStart_2 : decode cX0_subfieldStart 2 = .ok (.iconst 0, 1) := by decide +kernel
theorem dX0_subfieldStart_3 : decode cX0_subfieldStart 3 = .ok (.istore 4, 2) := by decide +kernel
theorem dX0_subfieldStart_5 : decode cX0_subfieldStart 5 = .ok (.iload 4, 2) := by decide +kernel
theorem dX0_subfieldStart_7 : decode cX0_subfieldStart 7 = .ok (.iconst 1, 1) := by decide +kernel
theorem dX0_subfieldStart_8 : decode cX0_subfieldStart 8 = .ok (.iadd, 1) := by decide +kernel
theorem dX0_subfieldStart_9 : decode cX0_subfieldStart 9 = .ok (.aload_n 0, 1) := by decide +kernel
theorem dX0_subfieldStart_10 : decode cX0_subfieldStart 10 = .ok (.getfield 25, 3) := by decide +kernel
theorem dX0_subfieldStart_13 : decode cX0_subfieldStart 13 = .ok (.if_icmp .ge 45, 3) := by decide +kernel
theorem dX0_subfieldStart_16 : decode cX0_subfieldStart 16 = .ok (.aload_n 0, 1) := by decide +kernel
theorem dX0_subfieldStart_17 : decode cX0_subfieldStart 17 = .ok (.iload 4, 2) := by decide +kernel
theorem dX0_subfieldStart_19 : decode cX0_subfieldStart 19 = .ok (.invokevirtual 45, 3) := by decide +kernel
theorem dX0_subfieldStart_22 : decode cX0_subfieldStart 22 = .ok (.bipush 31, 2) := by decide +kernel
theorem dX0_subfieldStart_24 : decode cX0_subfieldStart 24 = .ok (.if_icmp .ne 28, 3) := by decide +kernel
theorem dX0_subfieldStart_27 : decode cX0_subfieldStart 27 = .ok (.aload_n 0, 1) := by decide +kernel
theorem dX0_subfieldStart_28 : decode cX0_subfieldStart 28 = .ok (.iload 4, 2) := by decide +kernel
theorem dX0_subfieldStart_30 : decode cX0_subfieldStart 30 = .ok (.iconst 1, 1) := by decide +kernel
theorem dX0_subfieldStart_31 : decode cX0_subfieldStart 31 = .ok (.iadd, 1) := by decide +kernel
theorem dX0_subfieldStart_32 : decode cX0_subfieldStart 32 = .ok (.invokevirtual 45, 3) := by decide +kernel
theorem dX0_subfieldStart_35 : decode cX0_subfieldStart 35 = .ok (.iload_n 1, 1) := by decide +kernel
theorem dX0_subfieldStart_36 : decode cX0_subfieldStart 36 = .ok (.if_icmp .ne 16, 3) := by decide +kernel
theorem dX0_subfieldStart_39 : decode cX0_subfieldStart 39 = .ok (.iload_n 3, 1) := by decide +kernel
theorem dX0_subfieldStart_40 : decode cX0_subfieldStart 40 = .ok (.iload_n 2, 1) := by decide +kernel
theorem dX0_subfieldStart_41 : decode cX0_subfieldStart 41 = .ok (.if_icmp .ne 8, 3) := by decide +kernel
theorem dX0_subfieldStart_44 : decode cX0_subfieldStart 44 = .ok (.iload 4, 2) := by decide +kernel
theorem dX0_subfieldStart_46 : decode cX0_subfieldStart 46 = .ok (.iconst 2, 1) := by decide +kernel
theorem dX0_subfieldStart_47 : decode cX0_subfieldStart 47 = .ok (.iadd, 1) := by decide +kernel
theorem dX0_subfieldStart_48 : decode cX0_subfieldStart 48 = .ok (.ireturn, 1) := by decide +kernel
theorem dX0_subfieldStart_49 : decode cX0_subfieldStart 49 = .ok (.iinc 3 1, 3) := by decide +kernel
theorem dX0_subfieldStart_52 : decode cX0_subfieldStart 52 = .ok (.iinc 4 1, 3) := by decide +kernel
theorem dX0_subfieldStart_55 : decode cX0_subfieldStart 55 = .ok (.goto (-50), 3) := by decide +kernel
theorem dX0_subfieldStart_58 : decode cX0_subfieldStart 58 = .ok (.iconst (-1), 1) := by decide +kernel
theorem dX0_subfieldStart_59 : decode cX0_subfieldStart 59 = .ok (.ireturn, 1) := by decide +kernel
theorem dX0_subfieldEnd_0 : decode cX0_subfieldEnd 0 = .ok (.iload_n 1, 1) := by decide +kernel
theorem dX0_subfieldEnd_1 : decode cX0_subfieldEnd 1 = .ok (.istore_n 2, 1) := by decide +kernel
theorem dX0_subfieldEnd_2 : decode cX0_subfieldEnd 2 = .ok (.iload_n 2, 1) := by decide +kernel
theorem dX0_subfieldEnd_3 : decode cX0_subfieldEnd 3 = .ok (.aload_n 0, 1) := by decide +kernel
theorem dX0_subfieldEnd_4 : decode cX0_subfieldEnd 4 = .ok (.getfield 25, 3) := by decide +kernel
theorem dX0_subfieldEnd_7 : decode cX0_subfieldEnd 7 = .ok (.if_icmp .ge 21, 3) := by decide +kernel
theorem dX0_subfieldEnd_10 : decode cX0_subfieldEnd 10 = .ok (.aload_n 0, 1) := by decide +kernel
theorem dX0_subfieldEnd_11 : decode cX0_subfieldEnd 11 = .ok (.iload_n 2, 1) := by decide +kernel
theorem dX0_subfieldEnd_12 : decode cX0_subfieldEnd 12 = .ok (.invokevirtual 45, 3) := by decide +kernel
theorem dX0_subfieldEnd_15 : decode cX0_subfieldEnd 15 = .ok (.bipush 31, 2) := by decide +kernel
theorem dX0_subfieldEnd_17 : decode cX0_subfieldEnd 17 = .ok (.if_icmp .ne 5, 3) := by decide +kernel
theorem dX0_subfieldEnd_20 : decode cX0_subfieldEnd 20 = .ok (.iload_n 2, 1) := by decide +kernel
theorem dX0_subfieldEnd_21 : decode cX0_subfieldEnd 21 = .ok (.ireturn, 1) := by decide +kernel
theorem dX0_subfieldEnd_22 : decode cX0_subfieldEnd 22 = .ok (.iinc 2 1, 3) := by decide +kernel
theorem dX0_subfieldEnd_25 : decode cX0_subfieldEnd 25 = .ok (.goto (-23), 3) := by decide +kernel
theorem dX0_subfieldEnd_28 : decode cX0_subfieldEnd 28 = .ok (.aload_n 0, 1) := by decide +kernel
theorem dX0_subfieldEnd_29 : decode cX0_subfieldEnd 29 = .ok (.getfield 25, 3) := by decide +kernel
theorem dX0_subfieldEnd_32 : decode cX0_subfieldEnd 32 = .ok (.ireturn, 1) := by decide +kernel
theorem dX0_lastCode_0 : decode cX0_lastCode 0 = .ok (.aload_n 0, 1) := by decide +kernel
theorem dX0_lastCode_1 : decode cX0_lastCode 1 = .ok (.getfield 25, 3) := by decide +kernel
theorem dX0_lastCode_4 : decode cX0_lastCode 4 = .ok (.iconst 1, 1) := by decide +kernel
theorem dX0_lastCode_5 : decode cX0_lastCode 5 = .ok (.isub, 1) := by decide +kernel
theorem dX0_lastCode_6 : decode cX0_lastCode 6 = .ok (.istore_n 1, 1) := by decide +kernel
theorem dX0_lastCode_7 : decode cX0_lastCode 7 = .ok (.iload_n 1, 1) := by decide +kernel
theorem dX0_lastCode_8 : decode cX0_lastCode 8 = .ok (.ifCond .lt 27, 3) := by decide +kernel
theorem dX0_lastCode_11 : decode cX0_lastCode 11 = .ok (.aload_n 0, 1) := by decide +kernel
theorem dX0_lastCode_12 : decode cX0_lastCode 12 = .ok (.iload_n 1, 1) := by decide +kernel
theorem dX0_lastCode_13 : decode cX0_lastCode 13 = .ok (.invokevirtual 45, 3) := by decide +kernel
theorem dX0_lastCode_16 : decode cX0_lastCode 16 = .ok (.bipush 31, 2) := by decide +kernel
theorem dX0_lastCode_18 : decode cX0_lastCode 18 = .ok (.if_icmp .ne 11, 3) := by decide +kernel
theorem dX0_lastCode_21 : decode cX0_lastCode 21 = .ok (.aload_n 0, 1) := by decide +kernel
theorem dX0_lastCode_22 : decode cX0_lastCode 22 = .ok (.iload_n 1, 1) := by decide +kernel
theorem dX0_lastCode_23 : decode cX0_lastCode 23 = .ok (.iconst 1, 1) := by decide +kernel
theorem dX0_lastCode_24 : decode cX0_lastCode 24 = .ok (.iadd, 1) := by decide +kernel
theorem dX0_lastCode_25 : decode cX0_lastCode 25 = .ok (.invokevirtual 45, 3) := by decide +kernel
theorem dX0_lastCode_28 : decode cX0_lastCode 28 = .ok (.ireturn, 1) := by decide +kernel
theorem dX0_lastCode_29 : decode cX0_lastCode 29 = .ok (.iinc 1 (-1), 3) := by decide +kernel
theorem dX0_lastCode_32 : decode cX0_lastCode 32 = .ok (.goto (-25), 3) := by decide +kernel
theorem dX0_lastCode_35 : decode cX0_lastCode 35 = .ok (.iconst (-1), 1) := by decide +kernel
theorem dX0_lastCode_36 : decode cX0_lastCode 36 = .ok (.ireturn, 1) := by decide +kernel
theorem dX1_init_0 : decode cX1_init 0 = .ok (.aload_n 0, 1) := by decide +kernel
theorem dX1_init_1 : decode cX1_init 1 = .ok (.invokespecial 3, 3) := by decide +kernel
theorem dX1_init_4 : decode cX1_init 4 = .ok (.aload_n 0, 1) := by decide +kernel
theorem dX1_init_5 : decode cX1_init 5 = .ok (.sipush 1500, 3) := by decide +kernel
theorem dX1_init_8 : decode cX1_init 8 = .ok (.newarray .byte, 2) := by decide +kernel
theorem dX1_init_10 : decode cX1_init 10 = .ok (.putfield 9, 3) := by decide +kernel
theorem dX1_init_13 : decode cX1_init 13 = .ok (.aload_n 0, 1) := by decide +kernel
theorem dX1_init_14 : decode cX1_init 14 = .ok (.iconst 0, 1) := by decide +kernel
theorem dX1_init_15 : decode cX1_init 15 = .ok (.putfield 15, 3) := by decide +kernel
theorem dX1_init_18 : decode cX1_init 18 = .ok (.aload_n 0, 1) := by decide +kernel
theorem dX1_init_19 : decode cX1_init 19 = .ok (.iconst 0, 1) := by decide +kernel
theorem dX1_init_20 : decode cX1_init 20 = .ok (.putfield 19, 3) := by decide +kernel
theorem dX1_init_23 : decode cX1_init 23 = .ok (.return_, 1) := by decide +kernel
theorem dX1_append_0 : decode cX1_append 0 = .ok (.aload_n 0, 1) := by decide +kernel
theorem dX1_append_1 : decode cX1_append 1 = .ok (.getfield 15, 3) := by decide +kernel
theorem dX1_append_4 : decode cX1_append 4 = .ok (.sipush 1500, 3) := by decide +kernel
theorem dX1_append_7 : decode cX1_append 7 = .ok (.if_icmp .ge 23, 3) := by decide +kernel
theorem dX1_append_10 : decode cX1_append 10 = .ok (.aload_n 0, 1) := by decide +kernel
theorem dX1_append_11 : decode cX1_append 11 = .ok (.getfield 9, 3) := by decide +kernel
theorem dX1_append_14 : decode cX1_append 14 = .ok (.aload_n 0, 1) := by decide +kernel
theorem dX1_append_15 : decode cX1_append 15 = .ok (.getfield 15, 3) := by decide +kernel
theorem dX1_append_18 : decode cX1_append 18 = .ok (.iload_n 1, 1) := by decide +kernel
theorem dX1_append_19 : decode cX1_append 19 = .ok (.bastore, 1) := by decide +kernel
theorem dX1_append_20 : decode cX1_append 20 = .ok (.aload_n 0, 1) := by decide +kernel
theorem dX1_append_21 : decode cX1_append 21 = .ok (.dup, 1) := by decide +kernel
theorem dX1_append_22 : decode cX1_append 22 = .ok (.getfield 15, 3) := by decide +kernel
theorem dX1_append_25 : decode cX1_append 25 = .ok (.iconst 1, 1) := by decide +kernel
theorem dX1_append_26 : decode cX1_append 26 = .ok (.iadd, 1) := by decide +kernel
theorem dX1_append_27 : decode cX1_append 27 = .ok (.putfield 15, 3) := by decide +kernel
theorem dX1_append_30 : decode cX1_append 30 = .ok (.return_, 1) := by decide +kernel
theorem dX1_left_0 : decode cX1_left 0 = .ok (.aload_n 0, 1) := by decide +kernel
theorem dX1_left_1 : decode cX1_left 1 = .ok (.getfield 15, 3) := by decide +kernel
theorem dX1_left_4 : decode cX1_left 4 = .ok (.aload_n 0, 1) := by decide +kernel
theorem dX1_left_5 : decode cX1_left 5 = .ok (.getfield 19, 3) := by decide +kernel
theorem dX1_left_8 : decode cX1_left 8 = .ok (.isub, 1) := by decide +kernel
theorem dX1_left_9 : decode cX1_left 9 = .ok (.ireturn, 1) := by decide +kernel
theorem dX1_skip_0 : decode cX1_skip 0 = .ok (.aload_n 0, 1) := by decide +kernel
theorem dX1_skip_1 : decode cX1_skip 1 = .ok (.dup, 1) := by decide +kernel
theorem dX1_skip_2 : decode cX1_skip 2 = .ok (.getfield 19, 3) := by decide +kernel
theorem dX1_skip_5 : decode cX1_skip 5 = .ok (.iload_n 1, 1) := by decide +kernel
theorem dX1_skip_6 : decode cX1_skip 6 = .ok (.iadd, 1) := by decide +kernel
theorem dX1_skip_7 : decode cX1_skip 7 = .ok (.putfield 19, 3) := by decide +kernel
theorem dX1_skip_10 : decode cX1_skip 10 = .ok (.return_, 1) := by decide +kernel
theorem dX1_at_0 : decode cX1_at 0 = .ok (.iload_n 1, 1) := by decide +kernel
theorem dX1_at_1 : decode cX1_at 1 = .ok (.ifCond .lt 16, 3) := by decide +kernel
theorem dX1_at_4 : decode cX1_at 4 = .ok (.iload_n 1, 1) := by decide +kernel
theorem dX1_at_5 : decode cX1_at 5 = .ok (.aload_n 0, 1) := by decide +kernel
theorem dX1_at_6 : decode cX1_at 6 = .ok (.getfield 15, 3) := by decide +kernel
theorem dX1_at_9 : decode cX1_at 9 = .ok (.aload_n 0, 1) := by decide +kernel
theorem dX1_at_10 : decode cX1_at 10 = .ok (.getfield 19, 3) := by decide +kernel
theorem dX1_at_13 : decode cX1_at 13 = .ok (.isub, 1) := by decide +kernel
theorem dX1_at_14 : decode cX1_at 14 = .ok (.if_icmp .lt 7, 3) := by decide +kernel
theorem dX1_at_17 : decode cX1_at 17 = .ok (.iconst (-1), 1) := by decide +kernel
theorem dX1_at_18 : decode cX1_at 18 = .ok (.goto 18, 3) := by decide +kernel
theorem dX1_at_21 : decode cX1_at 21 = .ok (.aload_n 0, 1) := by decide +kernel
theorem dX1_at_22 : decode cX1_at 22 = .ok (.getfield 9, 3) := by decide +kernel
theorem dX1_at_25 : decode cX1_at 25 = .ok (.aload_n 0, 1) := by decide +kernel
theorem dX1_at_26 : decode cX1_at 26 = .ok (.getfield 19, 3) := by decide +kernel
theorem dX1_at_29 : decode cX1_at 29 = .ok (.iload_n 1, 1) := by decide +kernel
theorem dX1_at_30 : decode cX1_at 30 = .ok (.iadd, 1) := by decide +kernel
theorem dX1_at_31 : decode cX1_at 31 = .ok (.baload, 1) := by decide +kernel
theorem dX1_at_32 : decode cX1_at 32 = .ok (.sipush 255, 3) := by decide +kernel
theorem dX1_at_35 : decode cX1_at 35 = .ok (.iand, 1) := by decide +kernel
theorem dX1_at_36 : decode cX1_at 36 = .ok (.ireturn, 1) := by decide +kernel
theorem dX1_number_0 : decode cX1_number 0 = .ok (.iconst 0, 1) := by decide +kernel
theorem dX1_number_1 : decode cX1_number 1 = .ok (.istore_n 3, 1) := by decide +kernel
theorem dX1_number_2 : decode cX1_number 2 = .ok (.iload_n 1, 1) := by decide +kernel
theorem dX1_number_3 : decode cX1_number 3 = .ok (.istore 4, 2) := by decide +kernel
theorem dX1_number_5 : decode cX1_number 5 = .ok (.iload 4, 2) := by decide +kernel
theorem dX1_number_7 : decode cX1_number 7 = .ok (.iload_n 1, 1) := by decide +kernel
theorem dX1_number_8 : decode cX1_number 8 = .ok (.iload_n 2, 1) := by decide +kernel
theorem dX1_number_9 : decode cX1_number 9 = .ok (.iadd, 1) := by decide +kernel
theorem dX1_number_10 : decode cX1_number 10 = .ok (.if_icmp .ge 24, 3) := by decide +kernel
theorem dX1_number_13 : decode cX1_number 13 = .ok (.iload_n 3, 1) := by decide +kernel
theorem dX1_number_14 : decode cX1_number 14 = .ok (.bipush 10, 2) := by decide +kernel
theorem dX1_number_16 : decode cX1_number 16 = .ok (.imul, 1) := by decide +kernel
theorem dX1_number_17 : decode cX1_number 17 = .ok (.aload_n 0, 1) := by decide +kernel
theorem dX1_number_18 : decode cX1_number 18 = .ok (.iload 4, 2) := by decide +kernel
theorem dX1_number_20 : decode cX1_number 20 = .ok (.invokevirtual 22, 3) := by decide +kernel
theorem dX1_number_23 : decode cX1_number 23 = .ok (.iadd, 1) := by decide +kernel
theorem dX1_number_24 : decode cX1_number 24 = .ok (.bipush 48, 2) := by decide +kernel
theorem dX1_number_26 : decode cX1_number 26 = .ok (.isub, 1) := by decide +kernel
theorem dX1_number_27 : decode cX1_number 27 = .ok (.istore_n 3, 1) := by decide +kernel
theorem dX1_number_28 : decode cX1_number 28 = .ok (.iinc 4 1, 3) := by decide +kernel
theorem dX1_number_31 : decode cX1_number 31 = .ok (.goto (-26), 3) := by decide +kernel
theorem dX1_number_34 : decode cX1_number 34 = .ok (.iload_n 3, 1) := by decide +kernel
theorem dX1_number_35 : decode cX1_number 35 = .ok (.ireturn, 1) := by decide +kernel
theorem dX1_wrongInTotal_0 : decode cX1_wrongInTotal 0 = .ok (.aload_n 0, 1) := by decide +kernel
theorem dX1_wrongInTotal_1 : decode cX1_wrongInTotal 1 = .ok (.iconst 0, 1) := by decide +kernel
theorem dX1_wrongInTotal_2 : decode cX1_wrongInTotal 2 = .ok (.iconst 5, 1) := by decide +kernel
theorem dX1_wrongInTotal_3 : decode cX1_wrongInTotal 3 = .ok (.invokevirtual 26, 3) := by decide +kernel
theorem dX1_wrongInTotal_6 : decode cX1_wrongInTotal 6 = .ok (.istore_n 1, 1) := by decide +kernel
theorem dX1_wrongInTotal_7 : decode cX1_wrongInTotal 7 = .ok (.iload_n 1, 1) := by decide +kernel
theorem dX1_wrongInTotal_8 : decode cX1_wrongInTotal 8 = .ok (.iconst (-1), 1) := by decide +kernel
theorem dX1_wrongInTotal_9 : decode cX1_wrongInTotal 9 = .ok (.if_icmp .eq 5, 3) := by decide +kernel
theorem dX1_wrongInTotal_12 : decode cX1_wrongInTotal 12 = .ok (.iload_n 1, 1) := by decide +kernel
theorem dX1_wrongInTotal_13 : decode cX1_wrongInTotal 13 = .ok (.ireturn, 1) := by decide +kernel
theorem dX1_wrongInTotal_14 : decode cX1_wrongInTotal 14 = .ok (.aload_n 0, 1) := by decide +kernel
theorem dX1_wrongInTotal_15 : decode cX1_wrongInTotal 15 = .ok (.iconst 0, 1) := by decide +kernel
theorem dX1_wrongInTotal_16 : decode cX1_wrongInTotal 16 = .ok (.iconst 5, 1) := by decide +kernel
theorem dX1_wrongInTotal_17 : decode cX1_wrongInTotal 17 = .ok (.invokevirtual 30, 3) := by decide +kernel
theorem dX1_wrongInTotal_20 : decode cX1_wrongInTotal 20 = .ok (.bipush 26, 2) := by decide +kernel
theorem dX1_wrongInTotal_22 : decode cX1_wrongInTotal 22 = .ok (.if_icmp .ge 7, 3) := by decide +kernel
theorem dX1_wrongInTotal_25 : decode cX1_wrongInTotal 25 = .ok (.iconst 0, 1) := by decide +kernel
theorem dX1_wrongInTotal_26 : decode cX1_wrongInTotal 26 = .ok (.goto 4, 3) := by decide +kernel
theorem dX1_wrongInTotal_29 : decode cX1_wrongInTotal 29 = .ok (.iconst (-1), 1) := by decide +kernel
theorem dX1_wrongInTotal_30 : decode cX1_wrongInTotal 30 = .ok (.ireturn, 1) := by decide +kernel
theorem dX1_wrongInRecord_0 : decode cX1_wrongInRecord 0 = .ok (.aload_n 0, 1) := by decide +kernel
theorem dX1_wrongInRecord_1 : decode cX1_wrongInRecord 1 = .ok (.iload_n 1, 1) := by decide +kernel
theorem dX1_wrongInRecord_2 : decode cX1_wrongInRecord 2 = .ok (.invokevirtual 33, 3) := by decide +kernel
theorem dX1_wrongInRecord_5 : decode cX1_wrongInRecord 5 = .ok (.istore_n 2, 1) := by decide +kernel
theorem dX1_wrongInRecord_6 : decode cX1_wrongInRecord 6 = .ok (.iload_n 2, 1) := by decide +kernel
theorem dX1_wrongInRecord_7 : decode cX1_wrongInRecord 7 = .ok (.iconst (-1), 1) := by decide +kernel
theorem dX1_wrongInRecord_8 : decode cX1_wrongInRecord 8 = .ok (.if_icmp .eq 5, 3) := by decide +kernel
theorem dX1_wrongInRecord_11 : decode cX1_wrongInRecord 11 = .ok (.iload_n 2, 1) := by decide +kernel
theorem dX1_wrongInRecord_12 : decode cX1_wrongInRecord 12 = .ok (.ireturn, 1) := by decide +kernel
theorem dX1_wrongInRecord_13 : decode cX1_wrongInRecord 13 = .ok (.aload_n 0, 1) := by decide +kernel
theorem dX1_wrongInRecord_14 : decode cX1_wrongInRecord 14 = .ok (.bipush 12, 2) := by decide +kernel
theorem dX1_wrongInRecord_16 : decode cX1_wrongInRecord 16 = .ok (.iconst 5, 1) := by decide +kernel
theorem dX1_wrongInRecord_17 : decode cX1_wrongInRecord 17 = .ok (.invokevirtual 30, 3) := by decide +kernel
theorem dX1_wrongInRecord_20 : decode cX1_wrongInRecord 20 = .ok (.istore_n 3, 1) := by decide +kernel
theorem dX1_wrongInRecord_21 : decode cX1_wrongInRecord 21 = .ok (.aload_n 0, 1) := by decide +kernel
theorem dX1_wrongInRecord_22 : decode cX1_wrongInRecord 22 = .ok (.iload_n 3, 1) := by decide +kernel
theorem dX1_wrongInRecord_23 : decode cX1_wrongInRecord 23 = .ok (.iconst 1, 1) := by decide +kernel
theorem dX1_wrongInRecord_24 : decode cX1_wrongInRecord 24 = .ok (.isub, 1) := by decide +kernel
theorem dX1_wrongInRecord_25 : decode cX1_wrongInRecord 25 = .ok (.invokevirtual 22, 3) := by decide +kernel
theorem dX1_wrongInRecord_28 : decode cX1_wrongInRecord 28 = .ok (.bipush 30, 2) := by decide +kernel
theorem dX1_wrongInRecord_30 : decode cX1_wrongInRecord 30 = .ok (.if_icmp .eq 7, 3) := by decide +kernel
theorem dX1_wrongInRecord_33 : decode cX1_wrongInRecord 33 = .ok (.iload_n 3, 1) := by decide +kernel
theorem dX1_wrongInRecord_34 : decode cX1_wrongInRecord 34 = .ok (.iconst 1, 1) := by decide +kernel
theorem dX1_wrongInRecord_35 : decode cX1_wrongInRecord 35 = .ok (.isub, 1) := by decide +kernel
theorem dX1_wrongInRecord_36 : decode cX1_wrongInRecord 36 = .ok (.ireturn, 1) := by decide +kernel
theorem dX1_wrongInRecord_37 : decode cX1_wrongInRecord 37 = .ok (.aload_n 0, 1) := by decide +kernel
theorem dX1_wrongInRecord_38 : decode cX1_wrongInRecord 38 = .ok (.iload_n 1, 1) := by decide +kernel
theorem dX1_wrongInRecord_39 : decode cX1_wrongInRecord 39 = .ok (.iconst 1, 1) := by decide +kernel
theorem dX1_wrongInRecord_40 : decode cX1_wrongInRecord 40 = .ok (.isub, 1) := by decide +kernel
theorem dX1_wrongInRecord_41 : decode cX1_wrongInRecord 41 = .ok (.invokevirtual 22, 3) := by decide +kernel
theorem dX1_wrongInRecord_44 : decode cX1_wrongInRecord 44 = .ok (.bipush 29, 2) := by decide +kernel
theorem dX1_wrongInRecord_46 : decode cX1_wrongInRecord 46 = .ok (.if_icmp .eq 7, 3) := by decide +kernel
theorem dX1_wrongInRecord_49 : decode cX1_wrongInRecord 49 = .ok (.iload_n 1, 1) := by decide +kernel
theorem dX1_wrongInRecord_50 : decode cX1_wrongInRecord 50 = .ok (.iconst 1, 1) := by decide +kernel
theorem dX1_wrongInRecord_51 : decode cX1_wrongInRecord 51 = .ok (.isub, 1) := by decide +kernel
theorem dX1_wrongInRecord_52 : decode cX1_wrongInRecord 52 = .ok (.ireturn, 1) := by decide +kernel
theorem dX1_wrongInRecord_53 : decode cX1_wrongInRecord 53 = .ok (.iload_n 3, 1) := by decide +kernel
theorem dX1_wrongInRecord_54 : decode cX1_wrongInRecord 54 = .ok (.bipush 25, 2) := by decide +kernel
theorem dX1_wrongInRecord_56 : decode cX1_wrongInRecord 56 = .ok (.isub, 1) := by decide +kernel
theorem dX1_wrongInRecord_57 : decode cX1_wrongInRecord 57 = .ok (.bipush 12, 2) := by decide +kernel
theorem dX1_wrongInRecord_59 : decode cX1_wrongInRecord 59 = .ok (.idiv, 1) := by decide +kernel
theorem dX1_wrongInRecord_60 : decode cX1_wrongInRecord 60 = .ok (.istore 4, 2) := by decide +kernel
theorem dX1_wrongInRecord_62 : decode cX1_wrongInRecord 62 = .ok (.iload 4, 2) := by decide +kernel
theorem dX1_wrongInRecord_64 : decode cX1_wrongInRecord 64 = .ok (.bipush 60, 2) := by decide +kernel
theorem dX1_wrongInRecord_66 : decode cX1_wrongInRecord 66 = .ok (.if_icmp .le 6, 3) := by decide +kernel
theorem dX1_wrongInRecord_69 : decode cX1_wrongInRecord 69 = .ok (.bipush 24, 2) := by decide +kernel
theorem dX1_wrongInRecord_71 : decode cX1_wrongInRecord 71 = .ok (.ireturn, 1) := by decide +kernel
theorem dX1_wrongInRecord_72 : decode cX1_wrongInRecord 72 = .ok (.iconst 0, 1) := by decide +kernel
theorem dX1_wrongInRecord_73 : decode cX1_wrongInRecord 73 = .ok (.istore 5, 2) := by decide +kernel
theorem dX1_wrongInRecord_75 : decode cX1_wrongInRecord 75 = .ok (.iload 5, 2) := by decide +kernel
theorem dX1_wrongInRecord_77 : decode cX1_wrongInRecord 77 = .ok (.iload 4, 2) := by decide +kernel
theorem dX1_wrongInRecord_79 : decode cX1_wrongInRecord 79 = .ok (.if_icmp .ge 29, 3) := by decide +kernel
theorem dX1_wrongInRecord_82 : decode cX1_wrongInRecord 82 = .ok (.iload_n 2, 1) := by decide +kernel
theorem dX1_wrongInRecord_83 : decode cX1_wrongInRecord 83 = .ok (.iconst (-1), 1) := by decide +kernel
theorem dX1_wrongInRecord_84 : decode cX1_wrongInRecord 84 = .ok (.if_icmp .ne 24, 3) := by decide +kernel
theorem dX1_wrongInRecord_87 : decode cX1_wrongInRecord 87 = .ok (.aload_n 0, 1) := by decide +kernel
theorem dX1_wrongInRecord_88 : decode cX1_wrongInRecord 88 = .ok (.bipush 24, 2) := by decide +kernel
theorem dX1_wrongInRecord_90 : decode cX1_wrongInRecord 90 = .ok (.bipush 12, 2) := by decide +kernel
theorem dX1_wrongInRecord_92 : decode cX1_wrongInRecord 92 = .ok (.iload 5, 2) := by decide +kernel
theorem dX1_wrongInRecord_94 : decode cX1_wrongInRecord 94 = .ok (.imul, 1) := by decide +kernel
theorem dX1_wrongInRecord_95 : decode cX1_wrongInRecord 95 = .ok (.iadd, 1) := by decide +kernel
theorem dX1_wrongInRecord_96 : decode cX1_wrongInRecord 96 = .ok (.iload_n 3, 1) := by decide +kernel
theorem dX1_wrongInRecord_97 : decode cX1_wrongInRecord 97 = .ok (.iload_n 1, 1) := by decide +kernel
theorem dX1_wrongInRecord_98 : decode cX1_wrongInRecord 98 = .ok (.invokevirtual 36, 3) := by decide +kernel
theorem dX1_wrongInRecord_101 : decode cX1_wrongInRecord 101 = .ok (.istore_n 2, 1) := by decide +kernel
theorem dX1_wrongInRecord_102 : decode cX1_wrongInRecord 102 = .ok (.iinc 5 1, 3) := by decide +kernel
theorem dX1_wrongInRecord_105 : decode cX1_wrongInRecord 105 = .ok (.goto (-30), 3) := by decide +kernel
theorem dX1_wrongInRecord_108 : decode cX1_wrongInRecord 108 = .ok (.iload_n 2, 1) := by decide +kernel
theorem dX1_wrongInRecord_109 : decode cX1_wrongInRecord 109 = .ok (.ireturn, 1) := by decide +kernel
theorem dX1_wrongInLeader_0 : decode cX1_wrongInLeader 0 = .ok (.iconst 0, 1) := by decide +kernel
theorem dX1_wrongInLeader_1 : decode cX1_wrongInLeader 1 = .ok (.istore_n 2, 1) := by decide +kernel
theorem dX1_wrongInLeader_2 : decode cX1_wrongInLeader 2 = .ok (.iload_n 2, 1) := by decide +kernel
theorem dX1_wrongInLeader_3 : decode cX1_wrongInLeader 3 = .ok (.bipush 24, 2) := by decide +kernel
theorem dX1_wrongInLeader_5 : decode cX1_wrongInLeader 5 = .ok (.if_icmp .ge 30, 3) := by decide +kernel
theorem dX1_wrongInLeader_8 : decode cX1_wrongInLeader 8 = .ok (.iload_n 2, 1) := by decide +kernel
theorem dX1_wrongInLeader_9 : decode cX1_wrongInLeader 9 = .ok (.invokestatic 40, 3) := by decide +kernel
theorem dX1_wrongInLeader_12 : decode cX1_wrongInLeader 12 = .ok (.istore_n 3, 1) := by decide +kernel
theorem dX1_wrongInLeader_13 : decode cX1_wrongInLeader 13 = .ok (.iload_n 3, 1) := by decide +kernel
theorem dX1_wrongInLeader_14 : decode cX1_wrongInLeader 14 = .ok (.iconst (-1), 1) := by decide +kernel
theorem dX1_wrongInLeader_15 : decode cX1_wrongInLeader 15 = .ok (.if_icmp .eq 14, 3) := by decide +kernel
theorem dX1_wrongInLeader_18 : decode cX1_wrongInLeader 18 = .ok (.aload_n 0, 1) := by decide +kernel
theorem dX1_wrongInLeader_19 : decode cX1_wrongInLeader 19 = .ok (.iload_n 2, 1) := by decide +kernel
theorem dX1_wrongInLeader_20 : decode cX1_wrongInLeader 20 = .ok (.invokevirtual 22, 3) := by decide +kernel
theorem dX1_wrongInLeader_23 : decode cX1_wrongInLeader 23 = .ok (.iload_n 3, 1) := by decide +kernel
theorem dX1_wrongInLeader_24 : decode cX1_wrongInLeader 24 = .ok (.if_icmp .eq 5, 3) := by decide +kernel
theorem dX1_wrongInLeader_27 : decode cX1_wrongInLeader 27 = .ok (.iload_n 2, 1) := by decide +kernel
theorem dX1_wrongInLeader_28 : decode cX1_wrongInLeader 28 = .ok (.ireturn, 1) := by decide +kernel
theorem dX1_wrongInLeader_29 : decode cX1_wrongInLeader 29 = .ok (.iinc 2 1, 3) := by decide +kernel
theorem dX1_wrongInLeader_32 : decode cX1_wrongInLeader 32 = .ok (.goto (-30), 3) := by decide +kernel
theorem dX1_wrongInLeader_35 : decode cX1_wrongInLeader 35 = .ok (.aload_n 0, 1) := by decide +kernel
theorem dX1_wrongInLeader_36 : decode cX1_wrongInLeader 36 = .ok (.bipush 12, 2) := by decide +kernel
theorem dX1_wrongInLeader_38 : decode cX1_wrongInLeader 38 = .ok (.iconst 5, 1) := by decide +kernel
theorem dX1_wrongInLeader_39 : decode cX1_wrongInLeader 39 = .ok (.invokevirtual 26, 3) := by decide +kernel
theorem dX1_wrongInLeader_42 : decode cX1_wrongInLeader 42 = .ok (.istore_n 2, 1) := by decide +kernel
theorem dX1_wrongInLeader_43 : decode cX1_wrongInLeader 43 = .ok (.iload_n 2, 1) := by decide +kernel
theorem dX1_wrongInLeader_44 : decode cX1_wrongInLeader 44 = .ok (.iconst (-1), 1) := by decide +kernel
theorem dX1_wrongInLeader_45 : decode cX1_wrongInLeader 45 = .ok (.if_icmp .eq 5, 3) := by decide +kernel
theorem dX1_wrongInLeader_48 : decode cX1_wrongInLeader 48 = .ok (.iload_n 2, 1) := by decide +kernel
theorem dX1_wrongInLeader_49 : decode cX1_wrongInLeader 49 = .ok (.ireturn, 1) := by decide +kernel
theorem dX1_wrongInLeader_50 : decode cX1_wrongInLeader 50 = .ok (.aload_n 0, 1) := by decide +kernel
theorem dX1_wrongInLeader_51 : decode cX1_wrongInLeader 51 = .ok (.bipush 12, 2) := by decide +kernel
theorem dX1_wrongInLeader_53 : decode cX1_wrongInLeader 53 = .ok (.iconst 5, 1) := by decide +kernel
theorem dX1_wrongInLeader_54 : decode cX1_wrongInLeader 54 = .ok (.invokevirtual 30, 3) := by decide +kernel
theorem dX1_wrongInLeader_57 : decode cX1_wrongInLeader 57 = .ok (.istore_n 3, 1) := by decide +kernel
theorem dX1_wrongInLeader_58 : decode cX1_wrongInLeader 58 = .ok (.iload_n 3, 1) := by decide +kernel
theorem dX1_wrongInLeader_59 : decode cX1_wrongInLeader 59 = .ok (.bipush 25, 2) := by decide +kernel
theorem dX1_wrongInLeader_61 : decode cX1_wrongInLeader 61 = .ok (.if_icmp .lt 24, 3) := by decide +kernel
theorem dX1_wrongInLeader_64 : decode cX1_wrongInLeader 64 = .ok (.iload_n 3, 1) := by decide +kernel
theorem dX1_wrongInLeader_65 : decode cX1_wrongInLeader 65 = .ok (.iload_n 1, 1) := by decide +kernel
theorem dX1_wrongInLeader_66 : decode cX1_wrongInLeader 66 = .ok (.iconst 1, 1) := by decide +kernel
theorem dX1_wrongInLeader_67 : decode cX1_wrongInLeader 67 = .ok (.isub, 1) := by decide +kernel
theorem dX1_wrongInLeader_68 : decode cX1_wrongInLeader 68 = .ok (.if_icmp .gt 17, 3) := by decide +kernel
theorem dX1_wrongInLeader_71 : decode cX1_wrongInLeader 71 = .ok (.iload_n 3, 1) := by decide +kernel
theorem dX1_wrongInLeader_72 : decode cX1_wrongInLeader 72 = .ok (.bipush 25, 2) := by decide +kernel
theorem dX1_wrongInLeader_74 : decode cX1_wrongInLeader 74 = .ok (.isub, 1) := by decide +kernel
theorem dX1_wrongInLeader_75 : decode cX1_wrongInLeader 75 = .ok (.bipush 12, 2) := by decide +kernel
theorem dX1_wrongInLeader_77 : decode cX1_wrongInLeader 77 = .ok (.irem, 1) := by decide +kernel
theorem dX1_wrongInLeader_78 : decode cX1_wrongInLeader 78 = .ok (.ifCond .ne 7, 3) := by decide +kernel
theorem dX1_wrongInLeader_81 : decode cX1_wrongInLeader 81 = .ok (.iconst 1, 1) := by decide +kernel
theorem dX1_wrongInLeader_82 : decode cX1_wrongInLeader 82 = .ok (.goto 4, 3) := by decide +kernel
theorem dX1_wrongInLeader_85 : decode cX1_wrongInLeader 85 = .ok (.iconst 0, 1) := by decide +kernel
theorem dX1_wrongInLeader_86 : decode cX1_wrongInLeader 86 = .ok (.istore 4, 2) := by decide +kernel
theorem dX1_wrongInLeader_88 : decode cX1_wrongInLeader 88 = .ok (.iload 4, 2) := by decide +kernel
theorem dX1_wrongInLeader_90 : decode cX1_wrongInLeader 90 = .ok (.ifCond .eq 7, 3) := by decide +kernel
theorem dX1_wrongInLeader_93 : decode cX1_wrongInLeader 93 = .ok (.iconst (-1), 1) := by decide +kernel
theorem dX1_wrongInLeader_94 : decode cX1_wrongInLeader 94 = .ok (.goto 5, 3) := by decide +kernel
theorem dX1_wrongInLeader_97 : decode cX1_wrongInLeader 97 = .ok (.bipush 12, 2) := by decide +kernel
theorem dX1_wrongInLeader_99 : decode cX1_wrongInLeader 99 = .ok (.ireturn, 1) := by decide +kernel
theorem dX1_wrongInRow_0 : decode cX1_wrongInRow 0 = .ok (.aload_n 0, 1) := by decide +kernel
theorem dX1_wrongInRow_1 : decode cX1_wrongInRow 1 = .ok (.iload_n 1, 1) := by decide +kernel
theorem dX1_wrongInRow_2 : decode cX1_wrongInRow 2 = .ok (.bipush 12, 2) := by decide +kernel
theorem dX1_wrongInRow_4 : decode cX1_wrongInRow 4 = .ok (.invokevirtual 26, 3) := by decide +kernel
theorem dX1_wrongInRow_7 : decode cX1_wrongInRow 7 = .ok (.istore 4, 2) := by decide +kernel
theorem dX1_wrongInRow_9 : decode cX1_wrongInRow 9 = .ok (.iload 4, 2) := by decide +kernel
theorem dX1_wrongInRow_11 : decode cX1_wrongInRow 11 = .ok (.iconst (-1), 1) := by decide +kernel
theorem dX1_wrongInRow_12 : decode cX1_wrongInRow 12 = .ok (.if_icmp .eq 6, 3) := by decide +kernel
theorem dX1_wrongInRow_15 : decode cX1_wrongInRow 15 = .ok (.iload 4, 2) := by decide +kernel
theorem dX1_wrongInRow_17 : decode cX1_wrongInRow 17 = .ok (.ireturn, 1) := by decide +kernel
theorem dX1_wrongInRow_18 : decode cX1_wrongInRow 18 = .ok (.aload_n 0, 1) := by decide +kernel
theorem dX1_wrongInRow_19 : decode cX1_wrongInRow 19 = .ok (.iload_n 1, 1) := by decide +kernel
theorem dX1_wrongInRow_20 : decode cX1_wrongInRow 20 = .ok (.iconst 3, 1) := by decide +kernel
theorem dX1_wrongInRow_21 : decode cX1_wrongInRow 21 = .ok (.invokevirtual 30, 3) := by decide +kernel
theorem dX1_wrongInRow_24 : decode cX1_wrongInRow 24 = .ok (.invokestatic 43, 3) := by decide +kernel
theorem dX1_wrongInRow_27 : decode cX1_wrongInRow 27 = .ok (.istore 5, 2) := by decide +kernel
theorem dX1_wrongInRow_29 : decode cX1_wrongInRow 29 = .ok (.aload_n 0, 1) := by decide +kernel
theorem dX1_wrongInRow_30 : decode cX1_wrongInRow 30 = .ok (.iload_n 1, 1) := by decide +kernel
theorem dX1_wrongInRow_31 : decode cX1_wrongInRow 31 = .ok (.iconst 3, 1) := by decide +kernel
theorem dX1_wrongInRow_32 : decode cX1_wrongInRow 32 = .ok (.iadd, 1) := by decide +kernel
theorem dX1_wrongInRow_33 : decode cX1_wrongInRow 33 = .ok (.iconst 4, 1) := by decide +kernel
theorem dX1_wrongInRow_34 : decode cX1_wrongInRow 34 = .ok (.invokevirtual 30, 3) := by decide +kernel
theorem dX1_wrongInRow_37 : decode cX1_wrongInRow 37 = .ok (.istore 6, 2) := by decide +kernel
theorem dX1_wrongInRow_39 : decode cX1_wrongInRow 39 = .ok (.iload_n 2, 1) := by decide +kernel
theorem dX1_wrongInRow_40 : decode cX1_wrongInRow 40 = .ok (.aload_n 0, 1) := by decide +kernel
theorem dX1_wrongInRow_41 : decode cX1_wrongInRow 41 = .ok (.iload_n 1, 1) := by decide +kernel
theorem dX1_wrongInRow_42 : decode cX1_wrongInRow 42 = .ok (.bipush 7, 2) := by decide +kernel
theorem dX1_wrongInRow_44 : decode cX1_wrongInRow 44 = .ok (.iadd, 1) := by decide +kernel
theorem dX1_wrongInRow_45 : decode cX1_wrongInRow 45 = .ok (.iconst 5, 1) := by decide +kernel
theorem dX1_wrongInRow_46 : decode cX1_wrongInRow 46 = .ok (.invokevirtual 30, 3) := by decide +kernel
theorem dX1_wrongInRow_49 : decode cX1_wrongInRow 49 = .ok (.iadd, 1) := by decide +kernel
theorem dX1_wrongInRow_50 : decode cX1_wrongInRow 50 = .ok (.istore 7, 2) := by decide +kernel
theorem dX1_wrongInRow_52 : decode cX1_wrongInRow 52 = .ok (.iload 5, 2) := by decide +kernel
theorem dX1_wrongInRow_54 : decode cX1_wrongInRow 54 = .ok (.ifCond .eq 7, 3) := by decide +kernel
theorem dX1_wrongInRow_57 : decode cX1_wrongInRow 57 = .ok (.iconst 1, 1) := by decide +kernel
theorem dX1_wrongInRow_58 : decode cX1_wrongInRow 58 = .ok (.goto 4, 3) := by decide +kernel
theorem dX1_wrongInRow_61 : decode cX1_wrongInRow 61 = .ok (.iconst 3, 1) := by decide +kernel
theorem dX1_wrongInRow_62 : decode cX1_wrongInRow 62 = .ok (.istore 8, 2) := by decide +kernel
theorem dX1_wrongInRow_64 : decode cX1_wrongInRow 64 = .ok (.iload 6, 2) := by decide +kernel
theorem dX1_wrongInRow_66 : decode cX1_wrongInRow 66 = .ok (.iload 8, 2) := by decide +kernel
theorem dX1_wrongInRow_68 : decode cX1_wrongInRow 68 = .ok (.if_icmp .lt 14, 3) := by decide +kernel
theorem dX1_wrongInRow_71 : decode cX1_wrongInRow 71 = .ok (.iload 7, 2) := by decide +kernel
theorem dX1_wrongInRow_73 : decode cX1_wrongInRow 73 = .ok (.iload 6, 2) := by decide +kernel
theorem dX1_wrongInRow_75 : decode cX1_wrongInRow 75 = .ok (.iadd, 1) := by decide +kernel
theorem dX1_wrongInRow_76 : decode cX1_wrongInRow 76 = .ok (.iload_n 3, 1) := by decide +kernel
theorem dX1_wrongInRow_77 : decode cX1_wrongInRow 77 = .ok (.iconst 1, 1) := by decide +kernel
theorem dX1_wrongInRow_78 : decode cX1_wrongInRow 78 = .ok (.isub, 1) := by decide +kernel
theorem dX1_wrongInRow_79 : decode cX1_wrongInRow 79 = .ok (.if_icmp .le 7, 3) := by decide +kernel
theorem dX1_wrongInRow_82 : decode cX1_wrongInRow 82 = .ok (.iload_n 1, 1) := by decide +kernel
theorem dX1_wrongInRow_83 : decode cX1_wrongInRow 83 = .ok (.iconst 3, 1) := by decide +kernel
theorem dX1_wrongInRow_84 : decode cX1_wrongInRow 84 = .ok (.iadd, 1) := by decide +kernel
theorem dX1_wrongInRow_85 : decode cX1_wrongInRow 85 = .ok (.ireturn, 1) := by decide +kernel
theorem dX1_wrongInRow_86 : decode cX1_wrongInRow 86 = .ok (.iload 7, 2) := by decide +kernel
theorem dX1_wrongInRow_88 : decode cX1_wrongInRow 88 = .ok (.iload 6, 2) := by decide +kernel
theorem dX1_wrongInRow_90 : decode cX1_wrongInRow 90 = .ok (.iadd, 1) := by decide +kernel
theorem dX1_wrongInRow_91 : decode cX1_wrongInRow 91 = .ok (.iconst 1, 1) := by decide +kernel
theorem dX1_wrongInRow_92 : decode cX1_wrongInRow 92 = .ok (.isub, 1) := by decide +kernel
theorem dX1_wrongInRow_93 : decode cX1_wrongInRow 93 = .ok (.istore 9, 2) := by decide +kernel
theorem dX1_wrongInRow_95 : decode cX1_wrongInRow 95 = .ok (.iload 5, 2) := by decide +kernel
theorem dX1_wrongInRow_97 : decode cX1_wrongInRow 97 = .ok (.ifCond .eq 14, 3) := by decide +kernel
theorem dX1_wrongInRow_100 : decode cX1_wrongInRow 100 = .ok (.aload_n 0, 1) := by decide +kernel
theorem dX1_wrongInRow_101 : decode cX1_wrongInRow 101 = .ok (.iload 7, 2) := by decide +kernel
theorem dX1_wrongInRow_103 : decode cX1_wrongInRow 103 = .ok (.iload 9, 2) := by decide +kernel
theorem dX1_wrongInRow_105 : decode cX1_wrongInRow 105 = .ok (.invokevirtual 47, 3) := by decide +kernel
theorem dX1_wrongInRow_108 : decode cX1_wrongInRow 108 = .ok (.goto 11, 3) := by decide +kernel
theorem dX1_wrongInRow_111 : decode cX1_wrongInRow 111 = .ok (.aload_n 0, 1) := by decide +kernel
theorem dX1_wrongInRow_112 : decode cX1_wrongInRow 112 = .ok (.iload 7, 2) := by decide +kernel
theorem dX1_wrongInRow_114 : decode cX1_wrongInRow 114 = .ok (.iload 9, 2) := by decide +kernel
theorem dX1_wrongInRow_116 : decode cX1_wrongInRow 116 = .ok (.invokevirtual 50, 3) := by decide +kernel
theorem dX1_wrongInRow_119 : decode cX1_wrongInRow 119 = .ok (.ireturn, 1) := by decide +kernel
theorem dX1_wrongInControlField_0 : decode cX1_wrongInControlField 0 = .ok (.aload_n 0, 1) := by decide +kernel
theorem dX1_wrongInControlField_1 : decode cX1_wrongInControlField 1 = .ok (.iload_n 1, 1) := by decide +kernel
theorem dX1_wrongInControlField_2 : decode cX1_wrongInControlField 2 = .ok (.iload_n 2, 1) := by decide +kernel
theorem dX1_wrongInControlField_3 : decode cX1_wrongInControlField 3 = .ok (.invokevirtual 53, 3) := by decide +kernel
theorem dX1_wrongInControlField_6 : decode cX1_wrongInControlField 6 = .ok (.istore_n 3, 1) := by decide +kernel
theorem dX1_wrongInControlField_7 : decode cX1_wrongInControlField 7 = .ok (.iload_n 3, 1) := by decide +kernel
theorem dX1_wrongInControlField_8 : decode cX1_wrongInControlField 8 = .ok (.iconst (-1), 1) := by decide +kernel
theorem dX1_wrongInControlField_9 : decode cX1_wrongInControlField 9 = .ok (.if_icmp .eq 7, 3) := by decide +kernel
theorem dX1_wrongInControlField_12 : decode cX1_wrongInControlField 12 = .ok (.iload_n 3, 1) := by decide +kernel
theorem dX1_wrongInControlField_13 : decode cX1_wrongInControlField 13 = .ok (.goto 8, 3) := by decide +kernel
theorem dX1_wrongInControlField_16 : decode cX1_wrongInControlField 16 = .ok (.aload_n 0, 1) := by decide +kernel
theorem dX1_wrongInControlField_17 : decode cX1_wrongInControlField 17 = .ok (.iload_n 2, 1) := by decide +kernel
theorem dX1_wrongInControlField_18 : decode cX1_wrongInControlField 18 = .ok (.invokevirtual 56, 3) := by decide +kernel
theorem dX1_wrongInControlField_21 : decode cX1_wrongInControlField 21 = .ok (.ireturn, 1) := by decide +kernel
theorem dX1_wrongInOtherField_0 : decode cX1_wrongInOtherField 0 = .ok (.iload_n 1, 1) := by decide +kernel
theorem dX1_wrongInOtherField_1 : decode cX1_wrongInOtherField 1 = .ok (.iconst 2, 1) := by decide +kernel
theorem dX1_wrongInOtherField_2 : decode cX1_wrongInOtherField 2 = .ok (.iadd, 1) := by decide +kernel
theorem dX1_wrongInOtherField_3 : decode cX1_wrongInOtherField 3 = .ok (.istore_n 3, 1) := by decide +kernel
theorem dX1_wrongInOtherField_4 : decode cX1_wrongInOtherField 4 = .ok (.aload_n 0, 1) := by decide +kernel
theorem dX1_wrongInOtherField_5 : decode cX1_wrongInOtherField 5 = .ok (.iload_n 1, 1) := by decide +kernel
theorem dX1_wrongInOtherField_6 : decode cX1_wrongInOtherField 6 = .ok (.iload_n 3, 1) := by decide +kernel
theorem dX1_wrongInOtherField_7 : decode cX1_wrongInOtherField 7 = .ok (.invokevirtual 53, 3) := by decide +kernel
theorem dX1_wrongInOtherField_10 : decode cX1_wrongInOtherField 10 = .ok (.istore 4, 2) := by decide +kernel
theorem dX1_wrongInOtherField_12 : decode cX1_wrongInOtherField 12 = .ok (.iload 4, 2) := by decide +kernel
theorem dX1_wrongInOtherField_14 : decode cX1_wrongInOtherField 14 = .ok (.iconst (-1), 1) := by decide +kernel
theorem dX1_wrongInOtherField_15 : decode cX1_wrongInOtherField 15 = .ok (.if_icmp .eq 6, 3) := by decide +kernel
theorem dX1_wrongInOtherField_18 : decode cX1_wrongInOtherField 18 = .ok (.iload 4, 2) := by decide +kernel
theorem dX1_wrongInOtherField_20 : decode cX1_wrongInOtherField 20 = .ok (.ireturn, 1) := by decide +kernel
theorem dX1_wrongInOtherField_21 : decode cX1_wrongInOtherField 21 = .ok (.iload_n 3, 1) := by decide +kernel
theorem dX1_wrongInOtherField_22 : decode cX1_wrongInOtherField 22 = .ok (.iload_n 2, 1) := by decide +kernel
theorem dX1_wrongInOtherField_23 : decode cX1_wrongInOtherField 23 = .ok (.if_icmp .ge 15, 3) := by decide +kernel
theorem dX1_wrongInOtherField_26 : decode cX1_wrongInOtherField 26 = .ok (.aload_n 0, 1) := by decide +kernel
theorem dX1_wrongInOtherField_27 : decode cX1_wrongInOtherField 27 = .ok (.iload_n 3, 1) := by decide +kernel
theorem dX1_wrongInOtherField_28 : decode cX1_wrongInOtherField 28 = .ok (.invokevirtual 22, 3) := by decide +kernel
theorem dX1_wrongInOtherField_31 : decode cX1_wrongInOtherField 31 = .ok (.bipush 31, 2) := by decide +kernel
theorem dX1_wrongInOtherField_33 : decode cX1_wrongInOtherField 33 = .ok (.if_icmp .eq 5, 3) := by decide +kernel
theorem dX1_wrongInOtherField_36 : decode cX1_wrongInOtherField 36 = .ok (.iload_n 3, 1) := by decide +kernel
theorem dX1_wrongInOtherField_37 : decode cX1_wrongInOtherField 37 = .ok (.ireturn, 1) := by decide +kernel
theorem dX1_wrongInOtherField_38 : decode cX1_wrongInOtherField 38 = .ok (.iload_n 3, 1) := by decide +kernel
theorem dX1_wrongInOtherField_39 : decode cX1_wrongInOtherField 39 = .ok (.istore 5, 2) := by decide +kernel
theorem dX1_wrongInOtherField_41 : decode cX1_wrongInOtherField 41 = .ok (.iload 5, 2) := by decide +kernel
theorem dX1_wrongInOtherField_43 : decode cX1_wrongInOtherField 43 = .ok (.iload_n 2, 1) := by decide +kernel
theorem dX1_wrongInOtherField_44 : decode cX1_wrongInOtherField 44 = .ok (.if_icmp .ge 68, 3) := by decide +kernel
theorem dX1_wrongInOtherField_47 : decode cX1_wrongInOtherField 47 = .ok (.aload_n 0, 1) := by decide +kernel
theorem dX1_wrongInOtherField_48 : decode cX1_wrongInOtherField 48 = .ok (.iload 5, 2) := by decide +kernel
theorem dX1_wrongInOtherField_50 : decode cX1_wrongInOtherField 50 = .ok (.iconst 1, 1) := by decide +kernel
theorem dX1_wrongInOtherField_51 : decode cX1_wrongInOtherField 51 = .ok (.isub, 1) := by decide +kernel
theorem dX1_wrongInOtherField_52 : decode cX1_wrongInOtherField 52 = .ok (.invokevirtual 22, 3) := by decide +kernel
theorem dX1_wrongInOtherField_55 : decode cX1_wrongInOtherField 55 = .ok (.bipush 31, 2) := by decide +kernel
theorem dX1_wrongInOtherField_57 : decode cX1_wrongInOtherField 57 = .ok (.if_icmp .eq 11, 3) := by decide +kernel
theorem dX1_wrongInOtherField_60 : decode cX1_wrongInOtherField 60 = .ok (.iload 5, 2) := by decide +kernel
theorem dX1_wrongInOtherField_62 : decode cX1_wrongInOtherField 62 = .ok (.iconst 1, 1) := by decide +kernel
theorem dX1_wrongInOtherField_63 : decode cX1_wrongInOtherField 63 = .ok (.iadd, 1) := by decide +kernel
theorem dX1_wrongInOtherField_64 : decode cX1_wrongInOtherField 64 = .ok (.iload_n 2, 1) := by decide +kernel
theorem dX1_wrongInOtherField_65 : decode cX1_wrongInOtherField 65 = .ok (.if_icmp .ne 7, 3) := by decide +kernel
theorem dX1_wrongInOtherField_68 : decode cX1_wrongInOtherField 68 = .ok (.iconst 1, 1) := by decide +kernel
theorem dX1_wrongInOtherField_69 : decode cX1_wrongInOtherField 69 = .ok (.goto 4, 3) := by decide +kernel
theorem dX1_wrongInOtherField_72 : decode cX1_wrongInOtherField 72 = .ok (.iconst 0, 1) := by decide +kernel
theorem dX1_wrongInOtherField_73 : decode cX1_wrongInOtherField 73 = .ok (.istore 6, 2) := by decide +kernel
theorem dX1_wrongInOtherField_75 : decode cX1_wrongInOtherField 75 = .ok (.aload_n 0, 1) := by decide +kernel
theorem dX1_wrongInOtherField_76 : decode cX1_wrongInOtherField 76 = .ok (.iload 5, 2) := by decide +kernel
theorem dX1_wrongInOtherField_78 : decode cX1_wrongInOtherField 78 = .ok (.invokevirtual 22, 3) := by decide +kernel
theorem dX1_wrongInOtherField_81 : decode cX1_wrongInOtherField 81 = .ok (.invokestatic 59, 3) := by decide +kernel
theorem dX1_wrongInOtherField_84 : decode cX1_wrongInOtherField 84 = .ok (.ifCond .eq 22, 3) := by decide +kernel
theorem dX1_wrongInOtherField_87 : decode cX1_wrongInOtherField 87 = .ok (.aload_n 0, 1) := by decide +kernel
theorem dX1_wrongInOtherField_88 : decode cX1_wrongInOtherField 88 = .ok (.iload 5, 2) := by decide +kernel
theorem dX1_wrongInOtherField_90 : decode cX1_wrongInOtherField 90 = .ok (.invokevirtual 22, 3) := by decide +kernel
theorem dX1_wrongInOtherField_93 : decode cX1_wrongInOtherField 93 = .ok (.bipush 31, 2) := by decide +kernel
theorem dX1_wrongInOtherField_95 : decode cX1_wrongInOtherField 95 = .ok (.if_icmp .ne 8, 3) := by decide +kernel
theorem dX1_wrongInOtherField_98 : decode cX1_wrongInOtherField 98 = .ok (.iload 6, 2) := by decide +kernel
theorem dX1_wrongInOtherField_100 : decode cX1_wrongInOtherField 100 = .ok (.ifCond .eq 6, 3) := by decide +kernel
theorem dX1_wrongInOtherField_103 : decode cX1_wrongInOtherField 103 = .ok (.iload 5, 2) := by decide +kernel
theorem dX1_wrongInOtherField_105 : decode cX1_wrongInOtherField 105 = .ok (.ireturn, 1) := by decide +kernel
theorem dX1_wrongInOtherField_106 : decode cX1_wrongInOtherField 106 = .ok (.iinc 5 1, 3) := by decide +kernel
theorem dX1_wrongInOtherField_109 : decode cX1_wrongInOtherField 109 = .ok (.goto (-68), 3) := by decide +kernel
theorem dX1_wrongInOtherField_112 : decode cX1_wrongInOtherField 112 = .ok (.aload_n 0, 1) := by decide +kernel
theorem dX1_wrongInOtherField_113 : decode cX1_wrongInOtherField 113 = .ok (.iload_n 2, 1) := by decide +kernel
theorem dX1_wrongInOtherField_114 : decode cX1_wrongInOtherField 114 = .ok (.invokevirtual 56, 3) := by decide +kernel
theorem dX1_wrongInOtherField_117 : decode cX1_wrongInOtherField 117 = .ok (.ireturn, 1) := by decide +kernel
theorem dX1_wrongEnd_0 : decode cX1_wrongEnd 0 = .ok (.aload_n 0, 1) := by decide +kernel
theorem dX1_wrongEnd_1 : decode cX1_wrongEnd 1 = .ok (.iload_n 1, 1) := by decide +kernel
theorem dX1_wrongEnd_2 : decode cX1_wrongEnd 2 = .ok (.invokevirtual 22, 3) := by decide +kernel
theorem dX1_wrongEnd_5 : decode cX1_wrongEnd 5 = .ok (.bipush 30, 2) := by decide +kernel
theorem dX1_wrongEnd_7 : decode cX1_wrongEnd 7 = .ok (.if_icmp .ne 7, 3) := by decide +kernel
theorem dX1_wrongEnd_10 : decode cX1_wrongEnd 10 = .ok (.iconst (-1), 1) := by decide +kernel
theorem dX1_wrongEnd_11 : decode cX1_wrongEnd 11 = .ok (.goto 4, 3) := by decide +kernel
theorem dX1_wrongEnd_14 : decode cX1_wrongEnd 14 = .ok (.iload_n 1, 1) := by decide +kernel
theorem dX1_wrongEnd_15 : decode cX1_wrongEnd 15 = .ok (.ireturn, 1) := by decide +kernel
theorem dX1_wrongDigit_0 : decode cX1_wrongDigit 0 = .ok (.iload_n 1, 1) := by decide +kernel
theorem dX1_wrongDigit_1 : decode cX1_wrongDigit 1 = .ok (.istore_n 3, 1) := by decide +kernel
theorem dX1_wrongDigit_2 : decode cX1_wrongDigit 2 = .ok (.iload_n 3, 1) := by decide +kernel
theorem dX1_wrongDigit_3 : decode cX1_wrongDigit 3 = .ok (.iload_n 1, 1) := by decide +kernel
theorem dX1_wrongDigit_4 : decode cX1_wrongDigit 4 = .ok (.iload_n 2, 1) := by decide +kernel
theorem dX1_wrongDigit_5 : decode cX1_wrongDigit 5 = .ok (.iadd, 1) := by decide +kernel
theorem dX1_wrongDigit_6 : decode cX1_wrongDigit 6 = .ok (.if_icmp .ge 22, 3) := by decide +kernel
theorem dX1_wrongDigit_9 : decode cX1_wrongDigit 9 = .ok (.aload_n 0, 1) := by decide +kernel
theorem dX1_wrongDigit_10 : decode cX1_wrongDigit 10 = .ok (.iload_n 3, 1) := by decide +kernel
theorem dX1_wrongDigit_11 : decode cX1_wrongDigit 11 = .ok (.invokevirtual 22, 3) := by decide +kernel
theorem dX1_wrongDigit_14 : decode cX1_wrongDigit 14 = .ok (.invokestatic 62, 3) := by decide +kernel
theorem dX1_wrongDigit_17 : decode cX1_wrongDigit 17 = .ok (.ifCond .ne 5, 3) := by decide +kernel
theorem dX1_wrongDigit_20 : decode cX1_wrongDigit 20 = .ok (.iload_n 3, 1) := by decide +kernel
theorem dX1_wrongDigit_21 : decode cX1_wrongDigit 21 = .ok (.ireturn, 1) := by decide +kernel
theorem dX1_wrongDigit_22 : decode cX1_wrongDigit 22 = .ok (.iinc 3 1, 3) := by decide +kernel
theorem dX1_wrongDigit_25 : decode cX1_wrongDigit 25 = .ok (.goto (-23), 3) := by decide +kernel
theorem dX1_wrongDigit_28 : decode cX1_wrongDigit 28 = .ok (.iconst (-1), 1) := by decide +kernel
theorem dX1_wrongDigit_29 : decode cX1_wrongDigit 29 = .ok (.ireturn, 1) := by decide +kernel
theorem dX1_firstMark_0 : decode cX1_firstMark 0 = .ok (.iload_n 1, 1) := by decide +kernel
theorem dX1_firstMark_1 : decode cX1_firstMark 1 = .ok (.istore_n 3, 1) := by decide +kernel
theorem dX1_firstMark_2 : decode cX1_firstMark 2 = .ok (.iload_n 3, 1) := by decide +kernel
theorem dX1_firstMark_3 : decode cX1_firstMark 3 = .ok (.iload_n 2, 1) := by decide +kernel
theorem dX1_firstMark_4 : decode cX1_firstMark 4 = .ok (.if_icmp .ge 22, 3) := by decide +kernel
theorem dX1_firstMark_7 : decode cX1_firstMark 7 = .ok (.aload_n 0, 1) := by decide +kernel
theorem dX1_firstMark_8 : decode cX1_firstMark 8 = .ok (.iload_n 3, 1) := by decide +kernel
theorem dX1_firstMark_9 : decode cX1_firstMark 9 = .ok (.invokevirtual 22, 3) := by decide +kernel
theorem dX1_firstMark_12 : decode cX1_firstMark 12 = .ok (.invokestatic 59, 3) := by decide +kernel
theorem dX1_firstMark_15 : decode cX1_firstMark 15 = .ok (.ifCond .eq 5, 3) := by decide +kernel
theorem dX1_firstMark_18 : decode cX1_firstMark 18 = .ok (.iload_n 3, 1) := by decide +kernel
theorem dX1_firstMark_19 : decode cX1_firstMark 19 = .ok (.ireturn, 1) := by decide +kernel
theorem dX1_firstMark_20 : decode cX1_firstMark 20 = .ok (.iinc 3 1, 3) := by decide +kernel
theorem dX1_firstMark_23 : decode cX1_firstMark 23 = .ok (.goto (-21), 3) := by decide +kernel
theorem dX1_firstMark_26 : decode cX1_firstMark 26 = .ok (.iconst (-1), 1) := by decide +kernel
theorem dX1_firstMark_27 : decode cX1_firstMark 27 = .ok (.ireturn, 1) := by decide +kernel
theorem dX2_init_0 : decode cX2_init 0 = .ok (.aload_n 0, 1) := by decide +kernel
theorem dX2_init_1 : decode cX2_init 1 = .ok (.invokespecial 1, 3) := by decide +kernel
theorem dX2_init_4 : decode cX2_init 4 = .ok (.aload_n 0, 1) := by decide +kernel
theorem dX2_init_5 : decode cX2_init 5 = .ok (.sipush 256, 3) := by decide +kernel
theorem dX2_init_8 : decode cX2_init 8 = .ok (.newarray .byte, 2) := by decide +kernel
theorem dX2_init_10 : decode cX2_init 10 = .ok (.putfield 9, 3) := by decide +kernel
theorem dX2_init_13 : decode cX2_init 13 = .ok (.aload_n 0, 1) := by decide +kernel
theorem dX2_init_14 : decode cX2_init 14 = .ok (.iconst 0, 1) := by decide +kernel
theorem dX2_init_15 : decode cX2_init 15 = .ok (.putfield 13, 3) := by decide +kernel
theorem dX2_init_18 : decode cX2_init 18 = .ok (.return_, 1) := by decide +kernel
theorem dX2_begin_0 : decode cX2_begin 0 = .ok (.iload_n 1, 1) := by decide +kernel
theorem dX2_begin_1 : decode cX2_begin 1 = .ok (.aload_n 0, 1) := by decide +kernel
theorem dX2_begin_2 : decode cX2_begin 2 = .ok (.getfield 9, 3) := by decide +kernel
theorem dX2_begin_5 : decode cX2_begin 5 = .ok (.arraylength, 1) := by decide +kernel
theorem dX2_begin_6 : decode cX2_begin 6 = .ok (.if_icmp .le 20, 3) := by decide +kernel
theorem dX2_begin_9 : decode cX2_begin 9 = .ok (.aload_n 0, 1) := by decide +kernel
theorem dX2_begin_10 : decode cX2_begin 10 = .ok (.iload_n 1, 1) := by decide +kernel
theorem dX2_begin_11 : decode cX2_begin 11 = .ok (.iconst 2, 1) := by decide +kernel
theorem dX2_begin_12 : decode cX2_begin 12 = .ok (.aload_n 0, 1) := by decide +kernel
theorem dX2_begin_13 : decode cX2_begin 13 = .ok (.getfield 9, 3) := by decide +kernel
theorem dX2_begin_16 : decode cX2_begin 16 = .ok (.arraylength, 1) := by decide +kernel
theorem dX2_begin_17 : decode cX2_begin 17 = .ok (.imul, 1) := by decide +kernel
theorem dX2_begin_18 : decode cX2_begin 18 = .ok (.invokestatic 17, 3) := by decide +kernel
theorem dX2_begin_21 : decode cX2_begin 21 = .ok (.newarray .byte, 2) := by decide +kernel
theorem dX2_begin_23 : decode cX2_begin 23 = .ok (.putfield 9, 3) := by decide +kernel
theorem dX2_begin_26 : decode cX2_begin 26 = .ok (.aload_n 0, 1) := by decide +kernel
theorem dX2_begin_27 : decode cX2_begin 27 = .ok (.iconst 0, 1) := by decide +kernel
theorem dX2_begin_28 : decode cX2_begin 28 = .ok (.putfield 13, 3) := by decide +kernel
theorem dX2_begin_31 : decode cX2_begin 31 = .ok (.return_, 1) := by decide +kernel
theorem dX2_emit_0 : decode cX2_emit 0 = .ok (.aload_n 0, 1) := by decide +kernel
theorem dX2_emit_1 : decode cX2_emit 1 = .ok (.getfield 13, 3) := by decide +kernel
theorem dX2_emit_4 : decode cX2_emit 4 = .ok (.aload_n 0, 1) := by decide +kernel
theorem dX2_emit_5 : decode cX2_emit 5 = .ok (.getfield 9, 3) := by decide +kernel
theorem dX2_emit_8 : decode cX2_emit 8 = .ok (.arraylength, 1) := by decide +kernel
theorem dX2_emit_9 : decode cX2_emit 9 = .ok (.if_icmp .ge 24, 3) := by decide +kernel
theorem dX2_emit_12 : decode cX2_emit 12 = .ok (.aload_n 0, 1) := by decide +kernel
theorem dX2_emit_13 : decode cX2_emit 13 = .ok (.getfield 9, 3) := by decide +kernel
theorem dX2_emit_16 : decode cX2_emit 16 = .ok (.aload_n 0, 1) := by decide +kernel
theorem dX2_emit_17 : decode cX2_emit 17 = .ok (.getfield 13, 3) := by decide +kernel
theorem dX2_emit_20 : decode cX2_emit 20 = .ok (.iload_n 1, 1) := by decide +kernel
theorem dX2_emit_21 : decode cX2_emit 21 = .ok (.i2b, 1) := by decide +kernel
theorem dX2_emit_22 : decode cX2_emit 22 = .ok (.bastore, 1) := by decide +kernel
theorem dX2_emit_23 : decode cX2_emit 23 = .ok (.aload_n 0, 1) := by decide +kernel
theorem dX2_emit_24 : decode cX2_emit 24 = .ok (.dup, 1) := by decide +kernel
theorem dX2_emit_25 : decode cX2_emit 25 = .ok (.getfield 13, 3) := by decide +kernel
theorem dX2_emit_28 : decode cX2_emit 28 = .ok (.iconst 1, 1) := by decide +kernel
theorem dX2_emit_29 : decode cX2_emit 29 = .ok (.iadd, 1) := by decide +kernel
theorem dX2_emit_30 : decode cX2_emit 30 = .ok (.putfield 13, 3) := by decide +kernel
theorem dX2_emit_33 : decode cX2_emit 33 = .ok (.return_, 1) := by decide +kernel
theorem dX2_emitDigits_0 : decode cX2_emitDigits 0 = .ok (.iload_n 1, 1) := by decide +kernel
theorem dX2_emitDigits_1 : decode cX2_emitDigits 1 = .ok (.istore_n 3, 1) := by decide +kernel
theorem dX2_emitDigits_2 : decode cX2_emitDigits 2 = .ok (.aload_n 0, 1) := by decide +kernel
theorem dX2_emitDigits_3 : decode cX2_emitDigits 3 = .ok (.getfield 13, 3) := by decide +kernel
theorem dX2_emitDigits_6 : decode cX2_emitDigits 6 = .ok (.istore 4, 2) := by decide +kernel
theorem dX2_emitDigits_8 : decode cX2_emitDigits 8 = .ok (.iconst 0, 1) := by decide +kernel
theorem dX2_emitDigits_9 : decode cX2_emitDigits 9 = .ok (.istore 5, 2) := by decide +kernel
theorem dX2_emitDigits_11 : decode cX2_emitDigits 11 = .ok (.iload 5, 2) := by decide +kernel
theorem dX2_emitDigits_13 : decode cX2_emitDigits 13 = .ok (.iload_n 2, 1) := by decide +kernel
theorem dX2_emitDigits_14 : decode cX2_emitDigits 14 = .ok (.if_icmp .ge 15, 3) := by decide +kernel
theorem dX2_emitDigits_17 : decode cX2_emitDigits 17 = .ok (.aload_n 0, 1) := by decide +kernel
theorem dX2_emitDigits_18 : decode cX2_emitDigits 18 = .ok (.bipush 48, 2) := by decide +kernel
theorem dX2_emitDigits_20 : decode cX2_emitDigits 20 = .ok (.invokevirtual 23, 3) := by decide +kernel
theorem dX2_emitDigits_23 : decode cX2_emitDigits 23 = .ok (.iinc 5 1, 3) := by decide +kernel
theorem dX2_emitDigits_26 : decode cX2_emitDigits 26 = .ok (.goto (-15), 3) := by decide +kernel
theorem dX2_emitDigits_29 : decode cX2_emitDigits 29 = .ok (.aload_n 0, 1) := by decide +kernel
theorem dX2_emitDigits_30 : decode cX2_emitDigits 30 = .ok (.getfield 13, 3) := by decide +kernel
theorem dX2_emitDigits_33 : decode cX2_emitDigits 33 = .ok (.iconst 1, 1) := by decide +kernel
theorem dX2_emitDigits_34 : decode cX2_emitDigits 34 = .ok (.isub, 1) := by decide +kernel
theorem dX2_emitDigits_35 : decode cX2_emitDigits 35 = .ok (.istore 5, 2) := by decide +kernel
theorem dX2_emitDigits_37 : decode cX2_emitDigits 37 = .ok (.iload 5, 2) := by decide +kernel
theorem dX2_emitDigits_39 : decode cX2_emitDigits 39 = .ok (.iload 4, 2) := by decide +kernel
theorem dX2_emitDigits_41 : decode cX2_emitDigits 41 = .ok (.if_icmp .lt 29, 3) := by decide +kernel
theorem dX2_emitDigits_44 : decode cX2_emitDigits 44 = .ok (.aload_n 0, 1) := by decide +kernel
theorem dX2_emitDigits_45 : decode cX2_emitDigits 45 = .ok (.getfield 9, 3) := by decide +kernel
theorem dX2_emitDigits_48 : decode cX2_emitDigits 48 = .ok (.iload 5, 2) := by decide +kernel
theorem dX2_emitDigits_50 : decode cX2_emitDigits 50 = .ok (.bipush 48, 2) := by decide +kernel
theorem dX2_emitDigits_52 : decode cX2_emitDigits 52 = .ok (.iload_n 3, 1) := by decide +kernel
theorem dX2_emitDigits_53 : decode cX2_emitDigits 53 = .ok (.bipush 10, 2) := by decide +kernel
theorem dX2_emitDigits_55 : decode cX2_emitDigits 55 = .ok (.irem, 1) := by decide +kernel
theorem dX2_emitDigits_56 : decode cX2_emitDigits 56 = .ok (.iadd, 1) := by decide +kernel
theorem dX2_emitDigits_57 : decode cX2_emitDigits 57 = .ok (.i2b, 1) := by decide +kernel
theorem dX2_emitDigits_58 : decode cX2_emitDigits 58 = .ok (.bastore, 1) := by decide +kernel
theorem dX2_emitDigits_59 : decode cX2_emitDigits 59 = .ok (.iload_n 3, 1) := by decide +kernel
theorem dX2_emitDigits_60 : decode cX2_emitDigits 60 = .ok (.bipush 10, 2) := by decide +kernel
theorem dX2_emitDigits_62 : decode cX2_emitDigits 62 = .ok (.idiv, 1) := by decide +kernel
theorem dX2_emitDigits_63 : decode cX2_emitDigits 63 = .ok (.istore_n 3, 1) := by decide +kernel
theorem dX2_emitDigits_64 : decode cX2_emitDigits 64 = .ok (.iinc 5 (-1), 3) := by decide +kernel
theorem dX2_emitDigits_67 : decode cX2_emitDigits 67 = .ok (.goto (-30), 3) := by decide +kernel
theorem dX2_emitDigits_70 : decode cX2_emitDigits 70 = .ok (.return_, 1) := by decide +kernel
theorem dX2_has_0 : decode cX2_has 0 = .ok (.iload_n 1, 1) := by decide +kernel
theorem dX2_has_1 : decode cX2_has 1 = .ok (.ifCond .lt 15, 3) := by decide +kernel
theorem dX2_has_4 : decode cX2_has 4 = .ok (.iload_n 1, 1) := by decide +kernel
theorem dX2_has_5 : decode cX2_has 5 = .ok (.aload_n 0, 1) := by decide +kernel
theorem dX2_has_6 : decode cX2_has 6 = .ok (.getfield 13, 3) := by decide +kernel
theorem dX2_has_9 : decode cX2_has 9 = .ok (.if_icmp .ge 7, 3) := by decide +kernel
theorem dX2_has_12 : decode cX2_has 12 = .ok (.iconst 1, 1) := by decide +kernel
theorem dX2_has_13 : decode cX2_has 13 = .ok (.goto 4, 3) := by decide +kernel
theorem dX2_has_16 : decode cX2_has 16 = .ok (.iconst 0, 1) := by decide +kernel
theorem dX2_has_17 : decode cX2_has 17 = .ok (.ireturn, 1) := by decide +kernel
theorem dX2_at_0 : decode cX2_at 0 = .ok (.aload_n 0, 1) := by decide +kernel
theorem dX2_at_1 : decode cX2_at 1 = .ok (.iload_n 1, 1) := by decide +kernel
theorem dX2_at_2 : decode cX2_at 2 = .ok (.invokevirtual 27, 3) := by decide +kernel
theorem dX2_at_5 : decode cX2_at 5 = .ok (.ifCond .eq 12, 3) := by decide +kernel
theorem dX2_at_8 : decode cX2_at 8 = .ok (.aload_n 0, 1) := by decide +kernel
theorem dX2_at_9 : decode cX2_at 9 = .ok (.getfield 9, 3) := by decide +kernel
theorem dX2_at_12 : decode cX2_at 12 = .ok (.iload_n 1, 1) := by decide +kernel
theorem dX2_at_13 : decode cX2_at 13 = .ok (.baload, 1) := by decide +kernel
theorem dX2_at_14 : decode cX2_at 14 = .ok (.goto 4, 3) := by decide +kernel
theorem dX2_at_17 : decode cX2_at 17 = .ok (.iconst 0, 1) := by decide +kernel
theorem dX2_at_18 : decode cX2_at 18 = .ok (.ireturn, 1) := by decide +kernel
theorem dX3_init_0 : decode cX3_init 0 = .ok (.aload_n 0, 1) := by decide +kernel
theorem dX3_init_1 : decode cX3_init 1 = .ok (.invokespecial 1, 3) := by decide +kernel
theorem dX3_init_4 : decode cX3_init 4 = .ok (.aload_n 0, 1) := by decide +kernel
theorem dX3_init_5 : decode cX3_init 5 = .ok (.new 7, 3) := by decide +kernel
theorem dX3_init_8 : decode cX3_init 8 = .ok (.dup, 1) := by decide +kernel
theorem dX3_init_9 : decode cX3_init 9 = .ok (.invokespecial 9, 3) := by decide +kernel
theorem dX3_init_12 : decode cX3_init 12 = .ok (.putfield 10, 3) := by decide +kernel
theorem dX3_init_15 : decode cX3_init 15 = .ok (.aload_n 0, 1) := by decide +kernel
theorem dX3_init_16 : decode cX3_init 16 = .ok (.new 16, 3) := by decide +kernel
theorem dX3_init_19 : decode cX3_init 19 = .ok (.dup, 1) := by decide +kernel
theorem dX3_init_20 : decode cX3_init 20 = .ok (.invokespecial 18, 3) := by decide +kernel
theorem dX3_init_23 : decode cX3_init 23 = .ok (.putfield 19, 3) := by decide +kernel
theorem dX3_init_26 : decode cX3_init 26 = .ok (.aload_n 0, 1) := by decide +kernel
theorem dX3_init_27 : decode cX3_init 27 = .ok (.bipush 24, 2) := by decide +kernel
theorem dX3_init_29 : decode cX3_init 29 = .ok (.newarray .byte, 2) := by decide +kernel
theorem dX3_init_31 : decode cX3_init 31 = .ok (.putfield 23, 3) := by decide +kernel
theorem dX3_init_34 : decode cX3_init 34 = .ok (.aload_n 0, 1) := by decide +kernel
theorem dX3_init_35 : decode cX3_init 35 = .ok (.bipush 60, 2) := by decide +kernel
theorem dX3_init_37 : decode cX3_init 37 = .ok (.anewarray 27, 3) := by decide +kernel
theorem dX3_init_40 : decode cX3_init 40 = .ok (.putfield 29, 3) := by decide +kernel
theorem dX3_init_43 : decode cX3_init 43 = .ok (.iconst 0, 1) := by decide +kernel
theorem dX3_init_44 : decode cX3_init 44 = .ok (.istore_n 1, 1) := by decide +kernel
theorem dX3_init_45 : decode cX3_init 45 = .ok (.iload_n 1, 1) := by decide +kernel
theorem dX3_init_46 : decode cX3_init 46 = .ok (.bipush 60, 2) := by decide +kernel
theorem dX3_init_48 : decode cX3_init 48 = .ok (.if_icmp .ge 22, 3) := by decide +kernel
theorem dX3_init_51 : decode cX3_init 51 = .ok (.aload_n 0, 1) := by decide +kernel
theorem dX3_init_52 : decode cX3_init 52 = .ok (.getfield 29, 3) := by decide +kernel
theorem dX3_init_55 : decode cX3_init 55 = .ok (.iload_n 1, 1) := by decide +kernel
theorem dX3_init_56 : decode cX3_init 56 = .ok (.new 27, 3) := by decide +kernel
theorem dX3_init_59 : decode cX3_init 59 = .ok (.dup, 1) := by decide +kernel
theorem dX3_init_60 : decode cX3_init 60 = .ok (.invokespecial 33, 3) := by decide +kernel
theorem dX3_init_63 : decode cX3_init 63 = .ok (.aastore, 1) := by decide +kernel
theorem dX3_init_64 : decode cX3_init 64 = .ok (.iinc 1 1, 3) := by decide +kernel
theorem dX3_init_67 : decode cX3_init 67 = .ok (.goto (-22), 3) := by decide +kernel
theorem dX3_init_70 : decode cX3_init 70 = .ok (.aload_n 0, 1) := by decide +kernel
theorem dX3_init_71 : decode cX3_init 71 = .ok (.sipush 180, 3) := by decide +kernel
theorem dX3_init_74 : decode cX3_init 74 = .ok (.newarray .int, 2) := by decide +kernel
theorem dX3_init_76 : decode cX3_init 76 = .ok (.putfield 34, 3) := by decide +kernel
theorem dX3_init_79 : decode cX3_init 79 = .ok (.aload_n 0, 1) := by decide +kernel
theorem dX3_init_80 : decode cX3_init 80 = .ok (.iconst 0, 1) := by decide +kernel
theorem dX3_init_81 : decode cX3_init 81 = .ok (.putfield 38, 3) := by decide +kernel
theorem dX3_init_84 : decode cX3_init 84 = .ok (.aload_n 0, 1) := by decide +kernel
theorem dX3_init_85 : decode cX3_init 85 = .ok (.iconst 0, 1) := by decide +kernel
theorem dX3_init_86 : decode cX3_init 86 = .ok (.putfield 42, 3) := by decide +kernel
theorem dX3_init_89 : decode cX3_init 89 = .ok (.aload_n 0, 1) := by decide +kernel
theorem dX3_init_90 : decode cX3_init 90 = .ok (.iconst 0, 1) := by decide +kernel
theorem dX3_init_91 : decode cX3_init 91 = .ok (.putfield 46, 3) := by decide +kernel
theorem dX3_init_94 : decode cX3_init 94 = .ok (.return_, 1) := by decide +kernel
theorem dX3_add_0 : decode cX3_add 0 = .ok (.aload_n 0, 1) := by decide +kernel
theorem dX3_add_1 : decode cX3_add 1 = .ok (.getfield 10, 3) := by decide +kernel
theorem dX3_add_4 : decode cX3_add 4 = .ok (.iload_n 1, 1) := by decide +kernel
theorem dX3_add_5 : decode cX3_add 5 = .ok (.invokevirtual 49, 3) := by decide +kernel
theorem dX3_add_8 : decode cX3_add 8 = .ok (.return_, 1) := by decide +kernel
theorem dX3_read_0 : decode cX3_read 0 = .ok (.aload_n 0, 1) := by decide +kernel
theorem dX3_read_1 : decode cX3_read 1 = .ok (.getfield 10, 3) := by decide +kernel
theorem dX3_read_4 : decode cX3_read 4 = .ok (.invokevirtual 53, 3) := by decide +kernel
theorem dX3_read_7 : decode cX3_read 7 = .ok (.bipush 24, 2) := by decide +kernel
theorem dX3_read_9 : decode cX3_read 9 = .ok (.if_icmp .ge 5, 3) := by decide +kernel
theorem dX3_read_12 : decode cX3_read 12 = .ok (.iconst 0, 1) := by decide +kernel
theorem dX3_read_13 : decode cX3_read 13 = .ok (.ireturn, 1) := by decide +kernel
theorem dX3_read_14 : decode cX3_read 14 = .ok (.aload_n 0, 1) := by decide +kernel
theorem dX3_read_15 : decode cX3_read 15 = .ok (.getfield 10, 3) := by decide +kernel
theorem dX3_read_18 : decode cX3_read 18 = .ok (.invokevirtual 57, 3) := by decide +kernel
theorem dX3_read_21 : decode cX3_read 21 = .ok (.istore_n 1, 1) := by decide +kernel
theorem dX3_read_22 : decode cX3_read 22 = .ok (.iload_n 1, 1) := by decide +kernel
theorem dX3_read_23 : decode cX3_read 23 = .ok (.iconst (-1), 1) := by decide +kernel
theorem dX3_read_24 : decode cX3_read 24 = .ok (.if_icmp .eq 16, 3) := by decide +kernel
theorem dX3_read_27 : decode cX3_read 27 = .ok (.aload_n 0, 1) := by decide +kernel
theorem dX3_read_28 : decode cX3_read 28 = .ok (.iload_n 1, 1) := by decide +kernel
theorem dX3_read_29 : decode cX3_read 29 = .ok (.aload_n 0, 1) := by decide +kernel
theorem dX3_read_30 : decode cX3_read 30 = .ok (.getfield 10, 3) := by decide +kernel
theorem dX3_read_33 : decode cX3_read 33 = .ok (.invokevirtual 53, 3) := by decide +kernel
theorem dX3_read_36 : decode cX3_read 36 = .ok (.invokevirtual 60, 3) := by decide +kernel
theorem dX3_read_39 : decode cX3_read 39 = .ok (.ireturn, 1) := by decide +kernel
theorem dX3_read_40 : decode cX3_read 40 = .ok (.aload_n 0, 1) := by decide +kernel
theorem dX3_read_41 : decode cX3_read 41 = .ok (.getfield 10, 3) := by decide +kernel
theorem dX3_read_44 : decode cX3_read 44 = .ok (.iconst 0, 1) := by decide +kernel
theorem dX3_read_45 : decode cX3_read 45 = .ok (.iconst 5, 1) := by decide +kernel
theorem dX3_read_46 : decode cX3_read 46 = .ok (.invokevirtual 64, 3) := by decide +kernel
theorem dX3_read_49 : decode cX3_read 49 = .ok (.istore_n 2, 1) := by decide +kernel
theorem dX3_read_50 : decode cX3_read 50 = .ok (.aload_n 0, 1) := by decide +kernel
theorem dX3_read_51 : decode cX3_read 51 = .ok (.getfield 10, 3) := by decide +kernel
theorem dX3_read_54 : decode cX3_read 54 = .ok (.invokevirtual 53, 3) := by decide +kernel
theorem dX3_read_57 : decode cX3_read 57 = .ok (.iload_n 2, 1) := by decide +kernel
theorem dX3_read_58 : decode cX3_read 58 = .ok (.if_icmp .ge 5, 3) := by decide +kernel
theorem dX3_read_61 : decode cX3_read 61 = .ok (.iconst 0, 1) := by decide +kernel
theorem dX3_read_62 : decode cX3_read 62 = .ok (.ireturn, 1) := by decide +kernel
theorem dX3_read_63 : decode cX3_read 63 = .ok (.aload_n 0, 1) := by decide +kernel
theorem dX3_read_64 : decode cX3_read 64 = .ok (.getfield 10, 3) := by decide +kernel
theorem dX3_read_67 : decode cX3_read 67 = .ok (.iload_n 2, 1) := by decide +kernel
theorem dX3_read_68 : decode cX3_read 68 = .ok (.invokevirtual 67, 3) := by decide +kernel
theorem dX3_read_71 : decode cX3_read 71 = .ok (.istore_n 1, 1) := by decide +kernel
theorem dX3_read_72 : decode cX3_read 72 = .ok (.iload_n 1, 1) := by decide +kernel
theorem dX3_read_73 : decode cX3_read 73 = .ok (.iconst (-1), 1) := by decide +kernel
theorem dX3_read_74 : decode cX3_read 74 = .ok (.if_icmp .eq 27, 3) := by decide +kernel
theorem dX3_read_77 : decode cX3_read 77 = .ok (.aload_n 0, 1) := by decide +kernel
theorem dX3_read_78 : decode cX3_read 78 = .ok (.iload_n 1, 1) := by decide +kernel
theorem dX3_read_79 : decode cX3_read 79 = .ok (.iload_n 1, 1) := by decide +kernel
theorem dX3_read_80 : decode cX3_read 80 = .ok (.iload_n 2, 1) := by decide +kernel
theorem dX3_read_81 : decode cX3_read 81 = .ok (.iconst 1, 1) := by decide +kernel
theorem dX3_read_82 : decode cX3_read 82 = .ok (.isub, 1) := by decide +kernel
theorem dX3_read_83 : decode cX3_read 83 = .ok (.if_icmp .ne 13, 3) := by decide +kernel
theorem dX3_read_86 : decode cX3_read 86 = .ok (.aload_n 0, 1) := by decide +kernel
theorem dX3_read_87 : decode cX3_read 87 = .ok (.getfield 10, 3) := by decide +kernel
theorem dX3_read_90 : decode cX3_read 90 = .ok (.invokevirtual 53, 3) := by decide +kernel
theorem dX3_read_93 : decode cX3_read 93 = .ok (.goto 4, 3) := by decide +kernel
theorem dX3_read_96 : decode cX3_read 96 = .ok (.iload_n 2, 1) := by decide +kernel
theorem dX3_read_97 : decode cX3_read 97 = .ok (.invokevirtual 60, 3) := by decide +kernel
theorem dX3_read_100 : decode cX3_read 100 = .ok (.ireturn, 1) := by decide +kernel
theorem dX3_read_101 : decode cX3_read 101 = .ok (.aload_n 0, 1) := by decide +kernel
theorem dX3_read_102 : decode cX3_read 102 = .ok (.invokevirtual 71, 3) := by decide +kernel
theorem dX3_read_105 : decode cX3_read 105 = .ok (.aload_n 0, 1) := by decide +kernel
theorem dX3_read_106 : decode cX3_read 106 = .ok (.getfield 10, 3) := by decide +kernel
theorem dX3_read_109 : decode cX3_read 109 = .ok (.iload_n 2, 1) := by decide +kernel
theorem dX3_read_110 : decode cX3_read 110 = .ok (.invokevirtual 74, 3) := by decide +kernel
theorem dX3_read_113 : decode cX3_read 113 = .ok (.iconst 1, 1) := by decide +kernel
theorem dX3_read_114 : decode cX3_read 114 = .ok (.ireturn, 1) := by decide +kernel
theorem dX3_field_0 : decode cX3_field 0 = .ok (.iconst 0, 1) := by decide +kernel
theorem dX3_field_1 : decode cX3_field 1 = .ok (.istore_n 3, 1) := by decide +kernel
theorem dX3_field_2 : decode cX3_field 2 = .ok (.iconst 0, 1) := by decide +kernel
theorem dX3_field_3 : decode cX3_field 3 = .ok (.istore 4, 2) := by decide +kernel
theorem dX3_field_5 : decode cX3_field 5 = .ok (.iload 4, 2) := by decide +kernel
theorem dX3_field_7 : decode cX3_field 7 = .ok (.aload_n 0, 1) := by decide +kernel
theorem dX3_field_8 : decode cX3_field 8 = .ok (.getfield 46, 3) := by decide +kernel
theorem dX3_field_11 : decode cX3_field 11 = .ok (.if_icmp .ge 36, 3) := by decide +kernel
theorem dX3_field_14 : decode cX3_field 14 = .ok (.aload_n 0, 1) := by decide +kernel
theorem dX3_field_15 : decode cX3_field 15 = .ok (.getfield 29, 3) := by decide +kernel
theorem dX3_field_18 : decode cX3_field 18 = .ok (.iload 4, 2) := by decide +kernel
theorem dX3_field_20 : decode cX3_field 20 = .ok (.aaload, 1) := by decide +kernel
theorem dX3_field_21 : decode cX3_field 21 = .ok (.getfield 78, 3) := by decide +kernel
theorem dX3_field_24 : decode cX3_field 24 = .ok (.iload_n 1, 1) := by decide +kernel
theorem dX3_field_25 : decode cX3_field 25 = .ok (.if_icmp .ne 16, 3) := by decide +kernel
theorem dX3_field_28 : decode cX3_field 28 = .ok (.iload_n 3, 1) := by decide +kernel
theorem dX3_field_29 : decode cX3_field 29 = .ok (.iload_n 2, 1) := by decide +kernel
theorem dX3_field_30 : decode cX3_field 30 = .ok (.if_icmp .ne 8, 3) := by decide +kernel
theorem dX3_field_33 : decode cX3_field 33 = .ok (.iload 4, 2) := by decide +kernel
theorem dX3_field_35 : decode cX3_field 35 = .ok (.iconst 1, 1) := by decide +kernel
theorem dX3_field_36 : decode cX3_field 36 = .ok (.iadd, 1) := by decide +kernel
theorem dX3_field_37 : decode cX3_field 37 = .ok (.ireturn, 1) := by decide +kernel
theorem dX3_field_38 : decode cX3_field 38 = .ok (.iinc 3 1, 3) := by decide +kernel
theorem dX3_field_41 : decode cX3_field 41 = .ok (.iinc 4 1, 3) := by decide +kernel
theorem dX3_field_44 : decode cX3_field 44 = .ok (.goto (-39), 3) := by decide +kernel
theorem dX3_field_47 : decode cX3_field 47 = .ok (.iconst 0, 1) := by decide +kernel
theorem dX3_field_48 : decode cX3_field 48 = .ok (.ireturn, 1) := by decide +kernel
theorem dX3_indicator_0 : decode cX3_indicator 0 = .ok (.aload_n 0, 1) := by decide +kernel
theorem dX3_indicator_1 : decode cX3_indicator 1 = .ok (.iload_n 1, 1) := by decide +kernel
theorem dX3_indicator_2 : decode cX3_indicator 2 = .ok (.invokevirtual 81, 3) := by decide +kernel
theorem dX3_indicator_5 : decode cX3_indicator 5 = .ok (.astore_n 3, 1) := by decide +kernel
theorem dX3_indicator_6 : decode cX3_indicator 6 = .ok (.aload_n 3, 1) := by decide +kernel
theorem dX3_indicator_7 : decode cX3_indicator 7 = .ok (.ifnull 13, 3) := by decide +kernel
theorem dX3_indicator_10 : decode cX3_indicator 10 = .ok (.aload_n 3, 1) := by decide +kernel
theorem dX3_indicator_11 : decode cX3_indicator 11 = .ok (.getfield 78, 3) := by decide +kernel
theorem dX3_indicator_14 : decode cX3_indicator 14 = .ok (.invokestatic 85, 3) := by decide +kernel
theorem dX3_indicator_17 : decode cX3_indicator 17 = .ok (.ifCond .eq 5, 3) := by decide +kernel
theorem dX3_indicator_20 : decode cX3_indicator 20 = .ok (.iconst (-1), 1) := by decide +kernel
theorem dX3_indicator_21 : decode cX3_indicator 21 = .ok (.ireturn, 1) := by decide +kernel
theorem dX3_indicator_22 : decode cX3_indicator 22 = .ok (.iload_n 2, 1) := by decide +kernel
theorem dX3_indicator_23 : decode cX3_indicator 23 = .ok (.ifCond .ne 8, 3) := by decide +kernel
theorem dX3_indicator_26 : decode cX3_indicator 26 = .ok (.aload_n 3, 1) := by decide +kernel
theorem dX3_indicator_27 : decode cX3_indicator 27 = .ok (.getfield 89, 3) := by decide +kernel
theorem dX3_indicator_30 : decode cX3_indicator 30 = .ok (.ireturn, 1) := by decide +kernel
theorem dX3_indicator_31 : decode cX3_indicator 31 = .ok (.iload_n 2, 1) := by decide +kernel
theorem dX3_indicator_32 : decode cX3_indicator 32 = .ok (.iconst 1, 1) := by decide +kernel
theorem dX3_indicator_33 : decode cX3_indicator 33 = .ok (.if_icmp .ne 10, 3) := by decide +kernel
theorem dX3_indicator_36 : decode cX3_indicator 36 = .ok (.aload_n 3, 1) := by decide +kernel
theorem dX3_indicator_37 : decode cX3_indicator 37 = .ok (.getfield 92, 3) := by decide +kernel
theorem dX3_indicator_40 : decode cX3_indicator 40 = .ok (.goto 4, 3) := by decide +kernel
theorem dX3_indicator_43 : decode cX3_indicator 43 = .ok (.iconst (-1), 1) := by decide +kernel
theorem dX3_indicator_44 : decode cX3_indicator 44 = .ok (.ireturn, 1) := by decide +kernel
theorem dX3_subfield_0 : decode cX3_subfield 0 = .ok (.aload_n 0, 1) := by decide +kernel
theorem dX3_subfield_1 : decode cX3_subfield 1 = .ok (.iload_n 1, 1) := by decide +kernel
theorem dX3_subfield_2 : decode cX3_subfield 2 = .ok (.invokevirtual 81, 3) := by decide +kernel
theorem dX3_subfield_5 : decode cX3_subfield 5 = .ok (.astore 5, 2) := by decide +kernel
theorem dX3_subfield_7 : decode cX3_subfield 7 = .ok (.aload 5, 2) := by decide +kernel
theorem dX3_subfield_9 : decode cX3_subfield 9 = .ok (.ifnonnull 5, 3) := by decide +kernel
theorem dX3_subfield_12 : decode cX3_subfield 12 = .ok (.iconst (-1), 1) := by decide +kernel
theorem dX3_subfield_13 : decode cX3_subfield 13 = .ok (.ireturn, 1) := by decide +kernel
theorem dX3_subfield_14 : decode cX3_subfield 14 = .ok (.aload 5, 2) := by decide +kernel
theorem dX3_subfield_16 : decode cX3_subfield 16 = .ok (.getfield 78, 3) := by decide +kernel
theorem dX3_subfield_19 : decode cX3_subfield 19 = .ok (.invokestatic 85, 3) := by decide +kernel
theorem dX3_subfield_22 : decode cX3_subfield 22 = .ok (.ifCond .eq 11, 3) := by decide +kernel
theorem dX3_subfield_25 : decode cX3_subfield 25 = .ok (.aload 5, 2) := by decide +kernel
theorem dX3_subfield_27 : decode cX3_subfield 27 = .ok (.iload 4, 2) := by decide +kernel
theorem dX3_subfield_29 : decode cX3_subfield 29 = .ok (.invokevirtual 95, 3) := by decide +kernel
theorem dX3_subfield_32 : decode cX3_subfield 32 = .ok (.ireturn, 1) := by decide +kernel
theorem dX3_subfield_33 : decode cX3_subfield 33 = .ok (.aload 5, 2) := by decide +kernel
theorem dX3_subfield_35 : decode cX3_subfield 35 = .ok (.iload_n 3, 1) := by decide +kernel
theorem dX3_subfield_36 : decode cX3_subfield 36 = .ok (.iload_n 2, 1) := by decide +kernel
theorem dX3_subfield_37 : decode cX3_subfield 37 = .ok (.invokevirtual 98, 3) := by decide +kernel
theorem dX3_subfield_40 : decode cX3_subfield 40 = .ok (.istore 6, 2) := by decide +kernel
theorem dX3_subfield_42 : decode cX3_subfield 42 = .ok (.iload 6, 2) := by decide +kernel
theorem dX3_subfield_44 : decode cX3_subfield 44 = .ok (.iconst (-1), 1) := by decide +kernel
theorem dX3_subfield_45 : decode cX3_subfield 45 = .ok (.if_icmp .eq 23, 3) := by decide +kernel
theorem dX3_subfield_48 : decode cX3_subfield 48 = .ok (.iload 4, 2) := by decide +kernel
theorem dX3_subfield_50 : decode cX3_subfield 50 = .ok (.ifCond .lt 18, 3) := by decide +kernel
theorem dX3_subfield_53 : decode cX3_subfield 53 = .ok (.iload 4, 2) := by decide +kernel
theorem dX3_subfield_55 : decode cX3_subfield 55 = .ok (.aload 5, 2) := by decide +kernel
theorem dX3_subfield_57 : decode cX3_subfield 57 = .ok (.iload 6, 2) := by decide +kernel
theorem dX3_subfield_59 : decode cX3_subfield 59 = .ok (.invokevirtual 101, 3) := by decide +kernel
theorem dX3_subfield_62 : decode cX3_subfield 62 = .ok (.iload 6, 2) := by decide +kernel
theorem dX3_subfield_64 : decode cX3_subfield 64 = .ok (.isub, 1) := by decide +kernel
theorem dX3_subfield_65 : decode cX3_subfield 65 = .ok (.if_icmp .lt 5, 3) := by decide +kernel
theorem dX3_subfield_68 : decode cX3_subfield 68 = .ok (.iconst (-1), 1) := by decide +kernel
theorem dX3_subfield_69 : decode cX3_subfield 69 = .ok (.ireturn, 1) := by decide +kernel
theorem dX3_subfield_70 : decode cX3_subfield 70 = .ok (.aload 5, 2) := by decide +kernel
theorem dX3_subfield_72 : decode cX3_subfield 72 = .ok (.iload 6, 2) := by decide +kernel
theorem dX3_subfield_74 : decode cX3_subfield 74 = .ok (.iload 4, 2) := by decide +kernel
theorem dX3_subfield_76 : decode cX3_subfield 76 = .ok (.iadd, 1) := by decide +kernel
theorem dX3_subfield_77 : decode cX3_subfield 77 = .ok (.invokevirtual 95, 3) := by decide +kernel
theorem dX3_subfield_80 : decode cX3_subfield 80 = .ok (.ireturn, 1) := by decide +kernel
theorem dX3_directory_0 : decode cX3_directory 0 = .ok (.iload_n 1, 1) := by decide +kernel
theorem dX3_directory_1 : decode cX3_directory 1 = .ok (.ifCond .lt 11, 3) := by decide +kernel
theorem dX3_directory_4 : decode cX3_directory 4 = .ok (.iload_n 1, 1) := by decide +kernel
theorem dX3_directory_5 : decode cX3_directory 5 = .ok (.aload_n 0, 1) := by decide +kernel
theorem dX3_directory_6 : decode cX3_directory 6 = .ok (.getfield 38, 3) := by decide +kernel
theorem dX3_directory_9 : decode cX3_directory 9 = .ok (.if_icmp .lt 13, 3) := by decide +kernel
theorem dX3_directory_12 : decode cX3_directory 12 = .ok (.new 104, 3) := by decide +kernel
theorem dX3_directory_15 : decode cX3_directory 15 = .ok (.dup, 1) := by decide +kernel
theorem dX3_directory_16 : decode cX3_directory 16 = .ok (.ldc 106, 2) := by decide +kernel
theorem dX3_directory_18 : decode cX3_directory 18 = .ok (.invokespecial 108, 3) := by decide +kernel
theorem dX3_directory_21 : decode cX3_directory 21 = .ok (.athrow, 1) := by decide +kernel
theorem dX3_directory_22 : decode cX3_directory 22 = .ok (.iload_n 2, 1) := by decide +kernel
theorem dX3_directory_23 : decode cX3_directory 23 = .ok (.ifCond .lt 8, 3) := by decide +kernel
theorem dX3_directory_26 : decode cX3_directory 26 = .ok (.iload_n 2, 1) := by decide +kernel
theorem dX3_directory_27 : decode cX3_directory 27 = .ok (.iconst 3, 1) := by decide +kernel
theorem dX3_directory_28 : decode cX3_directory 28 = .ok (.if_icmp .lt 5, 3) := by decide +kernel
theorem dX3_directory_31 : decode cX3_directory 31 = .ok (.iconst (-1), 1) := by decide +kernel
theorem dX3_directory_32 : decode cX3_directory 32 = .ok (.ireturn, 1) := by decide +kernel
theorem dX3_directory_33 : decode cX3_directory 33 = .ok (.aload_n 0, 1) := by decide +kernel
theorem dX3_directory_34 : decode cX3_directory 34 = .ok (.getfield 34, 3) := by decide +kernel
theorem dX3_directory_37 : decode cX3_directory 37 = .ok (.iload_n 1, 1) := by decide +kernel
theorem dX3_directory_38 : decode cX3_directory 38 = .ok (.iconst 3, 1) := by decide +kernel
theorem dX3_directory_39 : decode cX3_directory 39 = .ok (.imul, 1) := by decide +kernel
theorem dX3_directory_40 : decode cX3_directory 40 = .ok (.iload_n 2, 1) := by decide +kernel
theorem dX3_directory_41 : decode cX3_directory 41 = .ok (.iadd, 1) := by decide +kernel
theorem dX3_directory_42 : decode cX3_directory 42 = .ok (.iaload, 1) := by decide +kernel
theorem dX3_directory_43 : decode cX3_directory 43 = .ok (.ireturn, 1) := by decide +kernel
theorem dX3_length_0 : decode cX3_length 0 = .ok (.aload_n 0, 1) := by decide +kernel
theorem dX3_length_1 : decode cX3_length 1 = .ok (.getfield 42, 3) := by decide +kernel
theorem dX3_length_4 : decode cX3_length 4 = .ok (.ifCond .eq 10, 3) := by decide +kernel
theorem dX3_length_7 : decode cX3_length 7 = .ok (.aload_n 0, 1) := by decide +kernel
theorem dX3_length_8 : decode cX3_length 8 = .ok (.getfield 46, 3) := by decide +kernel
theorem dX3_length_11 : decode cX3_length 11 = .ok (.goto 4, 3) := by decide +kernel
theorem dX3_length_14 : decode cX3_length 14 = .ok (.iconst (-1), 1) := by decide +kernel
theorem dX3_length_15 : decode cX3_length 15 = .ok (.ireturn, 1) := by decide +kernel
theorem dX3_leader_0 : decode cX3_leader 0 = .ok (.iload_n 1, 1) := by decide +kernel
theorem dX3_leader_1 : decode cX3_leader 1 = .ok (.invokestatic 111, 3) := by decide +kernel
theorem dX3_leader_4 : decode cX3_leader 4 = .ok (.ifCond .ne 5, 3) := by decide +kernel
theorem dX3_leader_7 : decode cX3_leader 7 = .ok (.iconst 0, 1) := by decide +kernel
theorem dX3_leader_8 : decode cX3_leader 8 = .ok (.ireturn, 1) := by decide +kernel
theorem dX3_leader_9 : decode cX3_leader 9 = .ok (.aload_n 0, 1) := by decide +kernel
theorem dX3_leader_10 : decode cX3_leader 10 = .ok (.getfield 42, 3) := by decide +kernel
theorem dX3_leader_13 : decode cX3_leader 13 = .ok (.ifCond .ne 22, 3) := by decide +kernel
theorem dX3_leader_16 : decode cX3_leader 16 = .ok (.aload_n 0, 1) := by decide +kernel
theorem dX3_leader_17 : decode cX3_leader 17 = .ok (.iconst 1, 1) := by decide +kernel
theorem dX3_leader_18 : decode cX3_leader 18 = .ok (.putfield 42, 3) := by decide +kernel
theorem dX3_leader_21 : decode cX3_leader 21 = .ok (.aload_n 0, 1) := by decide +kernel
theorem dX3_leader_22 : decode cX3_leader 22 = .ok (.iconst 0, 1) := by decide +kernel
theorem dX3_leader_23 : decode cX3_leader 23 = .ok (.putfield 46, 3) := by decide +kernel
theorem dX3_leader_26 : decode cX3_leader 26 = .ok (.aload_n 0, 1) := by decide +kernel
theorem dX3_leader_27 : decode cX3_leader 27 = .ok (.getfield 23, 3) := by decide +kernel
theorem dX3_leader_30 : decode cX3_leader 30 = .ok (.bipush 32, 2) := by decide +kernel
theorem dX3_leader_32 : decode cX3_leader 32 = .ok (.invokestatic 114, 3) := by decide +kernel
theorem dX3_leader_35 : decode cX3_leader 35 = .ok (.aload_n 0, 1) := by decide +kernel
theorem dX3_leader_36 : decode cX3_leader 36 = .ok (.getfield 23, 3) := by decide +kernel
theorem dX3_leader_39 : decode cX3_leader 39 = .ok (.iload_n 1, 1) := by decide +kernel
theorem dX3_leader_40 : decode cX3_leader 40 = .ok (.iload_n 2, 1) := by decide +kernel
theorem dX3_leader_41 : decode cX3_leader 41 = .ok (.i2b, 1) := by decide +kernel
theorem dX3_leader_42 : decode cX3_leader 42 = .ok (.bastore, 1) := by decide +kernel
theorem dX3_leader_43 : decode cX3_leader 43 = .ok (.iconst 1, 1) := by decide +kernel
theorem dX3_leader_44 : decode cX3_leader 44 = .ok (.ireturn, 1) := by decide +kernel
theorem dX3_put_0 : decode cX3_put 0 = .ok (.aload_n 0, 1) := by decide +kernel
theorem dX3_put_1 : decode cX3_put 1 = .ok (.getfield 42, 3) := by decide +kernel
theorem dX3_put_4 : decode cX3_put 4 = .ok (.ifCond .eq 23, 3) := by decide +kernel
theorem dX3_put_7 : decode cX3_put 7 = .ok (.iload_n 1, 1) := by decide +kernel
theorem dX3_put_8 : decode cX3_put 8 = .ok (.ifCond .lt 19, 3) := by decide +kernel
theorem dX3_put_11 : decode cX3_put 11 = .ok (.iload_n 1, 1) := by decide +kernel
theorem dX3_put_12 : decode cX3_put 12 = .ok (.sipush 999, 3) := by decide +kernel
theorem dX3_put_15 : decode cX3_put 15 = .ok (.if_icmp .gt 12, 3) := by decide +kernel
theorem dX3_put_18 : decode cX3_put 18 = .ok (.aload_n 0, 1) := by decide +kernel
theorem dX3_put_19 : decode cX3_put 19 = .ok (.getfield 46, 3) := by decide +kernel
theorem dX3_put_22 : decode cX3_put 22 = .ok (.bipush 60, 2) := by decide +kernel
theorem dX3_put_24 : decode cX3_put 24 = .ok (.if_icmp .lt 5, 3) := by decide +kernel
theorem dX3_put_27 : decode cX3_put 27 = .ok (.iconst 0, 1) := by decide +kernel
theorem dX3_put_28 : decode cX3_put 28 = .ok (.ireturn, 1) := by decide +kernel
theorem dX3_put_29 : decode cX3_put 29 = .ok (.aload_n 0, 1) := by decide +kernel
theorem dX3_put_30 : decode cX3_put 30 = .ok (.getfield 29, 3) := by decide +kernel
theorem dX3_put_33 : decode cX3_put 33 = .ok (.aload_n 0, 1) := by decide +kernel
theorem dX3_put_34 : decode cX3_put 34 = .ok (.getfield 46, 3) := by decide +kernel
theorem dX3_put_37 : decode cX3_put 37 = .ok (.aaload, 1) := by decide +kernel
theorem dX3_put_38 : decode cX3_put 38 = .ok (.iload_n 1, 1) := by decide +kernel
theorem dX3_put_39 : decode cX3_put 39 = .ok (.iload_n 2, 1) := by decide +kernel
theorem dX3_put_40 : decode cX3_put 40 = .ok (.bipush 8, 2) := by decide +kernel
theorem dX3_put_42 : decode cX3_put 42 = .ok (.ishr, 1) := by decide +kernel
theorem dX3_put_43 : decode cX3_put 43 = .ok (.sipush 255, 3) := by decide +kernel
theorem dX3_put_46 : decode cX3_put 46 = .ok (.iand, 1) := by decide +kernel
theorem dX3_put_47 : decode cX3_put 47 = .ok (.iload_n 2, 1) := by decide +kernel
theorem dX3_put_48 : decode cX3_put 48 = .ok (.sipush 255, 3) := by decide +kernel
theorem dX3_put_51 : decode cX3_put 51 = .ok (.iand, 1) := by decide +kernel
theorem dX3_put_52 : decode cX3_put 52 = .ok (.invokevirtual 120, 3) := by decide +kernel
theorem dX3_put_55 : decode cX3_put 55 = .ok (.aload_n 0, 1) := by decide +kernel
theorem dX3_put_56 : decode cX3_put 56 = .ok (.dup, 1) := by decide +kernel
theorem dX3_put_57 : decode cX3_put 57 = .ok (.getfield 46, 3) := by decide +kernel
theorem dX3_put_60 : decode cX3_put 60 = .ok (.iconst 1, 1) := by decide +kernel
theorem dX3_put_61 : decode cX3_put 61 = .ok (.iadd, 1) := by decide +kernel
theorem dX3_put_62 : decode cX3_put 62 = .ok (.putfield 46, 3) := by decide +kernel
theorem dX3_put_65 : decode cX3_put 65 = .ok (.aload_n 0, 1) := by decide +kernel
theorem dX3_put_66 : decode cX3_put 66 = .ok (.getfield 46, 3) := by decide +kernel
theorem dX3_put_69 : decode cX3_put 69 = .ok (.ireturn, 1) := by decide +kernel
theorem dX3_subfield2_0 : decode cX3_subfield2 0 = .ok (.aload_n 0, 1) := by decide +kernel
theorem dX3_subfield2_1 : decode cX3_subfield2 1 = .ok (.iload_n 1, 1) := by decide +kernel
theorem dX3_subfield2_2 : decode cX3_subfield2 2 = .ok (.invokevirtual 81, 3) := by decide +kernel
theorem dX3_subfield2_5 : decode cX3_subfield2 5 = .ok (.astore 4, 2) := by decide +kernel
theorem dX3_subfield2_7 : decode cX3_subfield2 7 = .ok (.iload_n 3, 1) := by decide +kernel
theorem dX3_subfield2_8 : decode cX3_subfield2 8 = .ok (.sipush 255, 3) := by decide +kernel
theorem dX3_subfield2_11 : decode cX3_subfield2 11 = .ok (.iand, 1) := by decide +kernel
theorem dX3_subfield2_12 : decode cX3_subfield2 12 = .ok (.istore 5, 2) := by decide +kernel
theorem dX3_subfield2_14 : decode cX3_subfield2 14 = .ok (.aload 4, 2) := by decide +kernel
theorem dX3_subfield2_16 : decode cX3_subfield2 16 = .ok (.ifnull 11, 3) := by decide +kernel
theorem dX3_subfield2_19 : decode cX3_subfield2 19 = .ok (.iload 5, 2) := by decide +kernel
theorem dX3_subfield2_21 : decode cX3_subfield2 21 = .ok (.invokestatic 124, 3) := by decide +kernel
theorem dX3_subfield2_24 : decode cX3_subfield2 24 = .ok (.ifCond .eq 4, 3) := by decide +kernel
theorem dX3_subfield2_27 : decode cX3_subfield2 27 = .ok (.return_, 1) := by decide +kernel
theorem dX3_subfield2_28 : decode cX3_subfield2 28 = .ok (.iload_n 2, 1) := by decide +kernel
theorem dX3_subfield2_29 : decode cX3_subfield2 29 = .ok (.sipush 255, 3) := by decide +kernel
theorem dX3_subfield2_32 : decode cX3_subfield2 32 = .ok (.iand, 1) := by decide +kernel
theorem dX3_subfield2_33 : decode cX3_subfield2 33 = .ok (.istore 6, 2) := by decide +kernel
theorem dX3_subfield2_35 : decode cX3_subfield2 35 = .ok (.aload 4, 2) := by decide +kernel
theorem dX3_subfield2_37 : decode cX3_subfield2 37 = .ok (.getfield 78, 3) := by decide +kernel
theorem dX3_subfield2_40 : decode cX3_subfield2 40 = .ok (.invokestatic 85, 3) := by decide +kernel
theorem dX3_subfield2_43 : decode cX3_subfield2 43 = .ok (.ifCond .ne 17, 3) := by decide +kernel
theorem dX3_subfield2_46 : decode cX3_subfield2 46 = .ok (.aload 4, 2) := by decide +kernel
theorem dX3_subfield2_48 : decode cX3_subfield2 48 = .ok (.invokevirtual 127, 3) := by decide +kernel
theorem dX3_subfield2_51 : decode cX3_subfield2 51 = .ok (.iload 6, 2) := by decide +kernel
theorem dX3_subfield2_53 : decode cX3_subfield2 53 = .ok (.if_icmp .eq 7, 3) := by decide +kernel
theorem dX3_subfield2_56 : decode cX3_subfield2 56 = .ok (.iconst 1, 1) := by decide +kernel
theorem dX3_subfield2_57 : decode cX3_subfield2 57 = .ok (.goto 4, 3) := by decide +kernel
theorem dX3_subfield2_60 : decode cX3_subfield2 60 = .ok (.iconst 0, 1) := by decide +kernel
theorem dX3_subfield2_61 : decode cX3_subfield2 61 = .ok (.istore 7, 2) := by decide +kernel
theorem dX3_subfield2_63 : decode cX3_subfield2 63 = .ok (.iload 7, 2) := by decide +kernel
theorem dX3_subfield2_65 : decode cX3_subfield2 65 = .ok (.ifCond .eq 12, 3) := by decide +kernel
theorem dX3_subfield2_68 : decode cX3_subfield2 68 = .ok (.iload 6, 2) := by decide +kernel
theorem dX3_subfield2_70 : decode cX3_subfield2 70 = .ok (.invokestatic 124, 3) := by decide +kernel
theorem dX3_subfield2_73 : decode cX3_subfield2 73 = .ok (.ifCond .eq 4, 3) := by decide +kernel
theorem dX3_subfield2_76 : decode cX3_subfield2 76 = .ok (.return_, 1) := by decide +kernel
theorem dX3_subfield2_77 : decode cX3_subfield2 77 = .ok (.aload_n 0, 1) := by decide +kernel
theorem dX3_subfield2_78 : decode cX3_subfield2 78 = .ok (.invokevirtual 130, 3) := by decide +kernel
theorem dX3_subfield2_81 : decode cX3_subfield2 81 = .ok (.iload 7, 2) := by decide +kernel
theorem dX3_subfield2_83 : decode cX3_subfield2 83 = .ok (.ifCond .eq 7, 3) := by decide +kernel
theorem dX3_subfield2_86 : decode cX3_subfield2 86 = .ok (.iconst 2, 1) := by decide +kernel
theorem dX3_subfield2_87 : decode cX3_subfield2 87 = .ok (.goto 4, 3) := by decide +kernel
theorem dX3_subfield2_90 : decode cX3_subfield2 90 = .ok (.iconst 1, 1) := by decide +kernel
theorem dX3_subfield2_91 : decode cX3_subfield2 91 = .ok (.iadd, 1) := by decide +kernel
theorem dX3_subfield2_92 : decode cX3_subfield2 92 = .ok (.sipush 1200, 3) := by decide +kernel
theorem dX3_subfield2_95 : decode cX3_subfield2 95 = .ok (.if_icmp .le 4, 3) := by decide +kernel
theorem dX3_subfield2_98 : decode cX3_subfield2 98 = .ok (.return_, 1) := by decide +kernel
theorem dX3_subfield2_99 : decode cX3_subfield2 99 = .ok (.iload 7, 2) := by decide +kernel
theorem dX3_subfield2_101 : decode cX3_subfield2 101 = .ok (.ifCond .eq 17, 3) := by decide +kernel
theorem dX3_subfield2_104 : decode cX3_subfield2 104 = .ok (.aload 4, 2) := by decide +kernel
theorem dX3_subfield2_106 : decode cX3_subfield2 106 = .ok (.bipush 31, 2) := by decide +kernel
theorem dX3_subfield2_108 : decode cX3_subfield2 108 = .ok (.invokevirtual 133, 3) := by decide +kernel
theorem dX3_subfield2_111 : decode cX3_subfield2 111 = .ok (.aload 4, 2) := by decide +kernel
theorem dX3_subfield2_113 : decode cX3_subfield2 113 = .ok (.iload 6, 2) := by decide +kernel
theorem dX3_subfield2_115 : decode cX3_subfield2 115 = .ok (.invokevirtual 133, 3) := by decide +kernel
theorem dX3_subfield2_118 : decode cX3_subfield2 118 = .ok (.aload 4, 2) := by decide +kernel
theorem dX3_subfield2_120 : decode cX3_subfield2 120 = .ok (.iload 5, 2) := by decide +kernel
theorem dX3_subfield2_122 : decode cX3_subfield2 122 = .ok (.invokevirtual 133, 3) := by decide +kernel
theorem dX3_subfield2_125 : decode cX3_subfield2 125 = .ok (.return_, 1) := by decide +kernel
theorem dX3_write_0 : decode cX3_write 0 = .ok (.aload_n 0, 1) := by decide +kernel
theorem dX3_write_1 : decode cX3_write 1 = .ok (.getfield 42, 3) := by decide +kernel
theorem dX3_write_4 : decode cX3_write 4 = .ok (.ifCond .eq 10, 3) := by decide +kernel
theorem dX3_write_7 : decode cX3_write 7 = .ok (.aload_n 0, 1) := by decide +kernel
theorem dX3_write_8 : decode cX3_write 8 = .ok (.invokevirtual 135, 3) := by decide +kernel
theorem dX3_write_11 : decode cX3_write 11 = .ok (.ifCond .eq 5, 3) := by decide +kernel
theorem dX3_write_14 : decode cX3_write 14 = .ok (.iconst (-1), 1) := by decide +kernel
theorem dX3_write_15 : decode cX3_write 15 = .ok (.ireturn, 1) := by decide +kernel
theorem dX3_write_16 : decode cX3_write 16 = .ok (.bipush 25, 2) := by decide +kernel
theorem dX3_write_18 : decode cX3_write 18 = .ok (.bipush 12, 2) := by decide +kernel
theorem dX3_write_20 : decode cX3_write 20 = .ok (.aload_n 0, 1) := by decide +kernel
theorem dX3_write_21 : decode cX3_write 21 = .ok (.getfield 46, 3) := by decide +kernel
theorem dX3_write_24 : decode cX3_write 24 = .ok (.imul, 1) := by decide +kernel
theorem dX3_write_25 : decode cX3_write 25 = .ok (.iadd, 1) := by decide +kernel
theorem dX3_write_26 : decode cX3_write 26 = .ok (.istore_n 1, 1) := by decide +kernel
theorem dX3_write_27 : decode cX3_write 27 = .ok (.iload_n 1, 1) := by decide +kernel
theorem dX3_write_28 : decode cX3_write 28 = .ok (.iconst 1, 1) := by decide +kernel
theorem dX3_write_29 : decode cX3_write 29 = .ok (.iadd, 1) := by decide +kernel
theorem dX3_write_30 : decode cX3_write 30 = .ok (.istore_n 2, 1) := by decide +kernel
theorem dX3_write_31 : decode cX3_write 31 = .ok (.iconst 0, 1) := by decide +kernel
theorem dX3_write_32 : decode cX3_write 32 = .ok (.istore_n 3, 1) := by decide +kernel
theorem dX3_write_33 : decode cX3_write 33 = .ok (.iload_n 3, 1) := by decide +kernel
theorem dX3_write_34 : decode cX3_write 34 = .ok (.aload_n 0, 1) := by decide +kernel
theorem dX3_write_35 : decode cX3_write 35 = .ok (.getfield 46, 3) := by decide +kernel
theorem dX3_write_38 : decode cX3_write 38 = .ok (.if_icmp .ge 21, 3) := by decide +kernel
theorem dX3_write_41 : decode cX3_write 41 = .ok (.iload_n 2, 1) := by decide +kernel
theorem dX3_write_42 : decode cX3_write 42 = .ok (.aload_n 0, 1) := by decide +kernel
theorem dX3_write_43 : decode cX3_write 43 = .ok (.getfield 29, 3) := by decide +kernel
theorem dX3_write_46 : decode cX3_write 46 = .ok (.iload_n 3, 1) := by decide +kernel
theorem dX3_write_47 : decode cX3_write 47 = .ok (.aaload, 1) := by decide +kernel
theorem dX3_write_48 : decode cX3_write 48 = .ok (.invokevirtual 139, 3) := by decide +kernel
theorem dX3_write_51 : decode cX3_write 51 = .ok (.iadd, 1) := by decide +kernel
theorem dX3_write_52 : decode cX3_write 52 = .ok (.istore_n 2, 1) := by decide +kernel
theorem dX3_write_53 : decode cX3_write 53 = .ok (.iinc 3 1, 3) := by decide +kernel
theorem dX3_write_56 : decode cX3_write 56 = .ok (.goto (-23), 3) := by decide +kernel
theorem dX3_write_59 : decode cX3_write 59 = .ok (.aload_n 0, 1) := by decide +kernel
theorem dX3_write_60 : decode cX3_write 60 = .ok (.getfield 19, 3) := by decide +kernel
theorem dX3_write_63 : decode cX3_write 63 = .ok (.iload_n 2, 1) := by decide +kernel
theorem dX3_write_64 : decode cX3_write 64 = .ok (.invokevirtual 142, 3) := by decide +kernel
theorem dX3_write_67 : decode cX3_write 67 = .ok (.aload_n 0, 1) := by decide +kernel
theorem dX3_write_68 : decode cX3_write 68 = .ok (.iload_n 2, 1) := by decide +kernel
theorem dX3_write_69 : decode cX3_write 69 = .ok (.iload_n 1, 1) := by decide +kernel
theorem dX3_write_70 : decode cX3_write 70 = .ok (.invokevirtual 144, 3) := by decide +kernel
theorem dX3_write_73 : decode cX3_write 73 = .ok (.aload_n 0, 1) := by decide +kernel
theorem dX3_write_74 : decode cX3_write 74 = .ok (.invokevirtual 148, 3) := by decide +kernel
theorem dX3_write_77 : decode cX3_write 77 = .ok (.iconst 0, 1) := by decide +kernel
theorem dX3_write_78 : decode cX3_write 78 = .ok (.istore_n 3, 1) := by decide +kernel
theorem dX3_write_79 : decode cX3_write 79 = .ok (.iload_n 3, 1) := by decide +kernel
theorem dX3_write_80 : decode cX3_write 80 = .ok (.aload_n 0, 1) := by decide +kernel
theorem dX3_write_81 : decode cX3_write 81 = .ok (.getfield 46, 3) := by decide +kernel
theorem dX3_write_84 : decode cX3_write 84 = .ok (.if_icmp .ge 19, 3) := by decide +kernel
theorem dX3_write_87 : decode cX3_write 87 = .ok (.aload_n 0, 1) := by decide +kernel
theorem dX3_write_88 : decode cX3_write 88 = .ok (.aload_n 0, 1) := by decide +kernel
theorem dX3_write_89 : decode cX3_write 89 = .ok (.getfield 29, 3) := by decide +kernel
theorem dX3_write_92 : decode cX3_write 92 = .ok (.iload_n 3, 1) := by decide +kernel
theorem dX3_write_93 : decode cX3_write 93 = .ok (.aaload, 1) := by decide +kernel
theorem dX3_write_94 : decode cX3_write 94 = .ok (.invokevirtual 151, 3) := by decide +kernel
theorem dX3_write_97 : decode cX3_write 97 = .ok (.iinc 3 1, 3) := by decide +kernel
theorem dX3_write_100 : decode cX3_write 100 = .ok (.goto (-21), 3) := by decide +kernel
theorem dX3_write_103 : decode cX3_write 103 = .ok (.aload_n 0, 1) := by decide +kernel
theorem dX3_write_104 : decode cX3_write 104 = .ok (.getfield 19, 3) := by decide +kernel
theorem dX3_write_107 : decode cX3_write 107 = .ok (.bipush 29, 2) := by decide +kernel
theorem dX3_write_109 : decode cX3_write 109 = .ok (.invokevirtual 155, 3) := by decide +kernel
theorem dX3_write_112 : decode cX3_write 112 = .ok (.iload_n 2, 1) := by decide +kernel
theorem dX3_write_113 : decode cX3_write 113 = .ok (.ireturn, 1) := by decide +kernel
theorem dX3_octet_0 : decode cX3_octet 0 = .ok (.aload_n 0, 1) := by decide +kernel
theorem dX3_octet_1 : decode cX3_octet 1 = .ok (.getfield 19, 3) := by decide +kernel
theorem dX3_octet_4 : decode cX3_octet 4 = .ok (.iload_n 1, 1) := by decide +kernel
theorem dX3_octet_5 : decode cX3_octet 5 = .ok (.invokevirtual 158, 3) := by decide +kernel
theorem dX3_octet_8 : decode cX3_octet 8 = .ok (.ifCond .ne 13, 3) := by decide +kernel
theorem dX3_octet_11 : decode cX3_octet 11 = .ok (.new 104, 3) := by decide +kernel
theorem dX3_octet_14 : decode cX3_octet 14 = .ok (.dup, 1) := by decide +kernel
theorem dX3_octet_15 : decode cX3_octet 15 = .ok (.ldc 161, 2) := by decide +kernel
theorem dX3_octet_17 : decode cX3_octet 17 = .ok (.invokespecial 108, 3) := by decide +kernel
theorem dX3_octet_20 : decode cX3_octet 20 = .ok (.athrow, 1) := by decide +kernel
theorem dX3_octet_21 : decode cX3_octet 21 = .ok (.aload_n 0, 1) := by decide +kernel
theorem dX3_octet_22 : decode cX3_octet 22 = .ok (.getfield 19, 3) := by decide +kernel
theorem dX3_octet_25 : decode cX3_octet 25 = .ok (.iload_n 1, 1) := by decide +kernel
theorem dX3_octet_26 : decode cX3_octet 26 = .ok (.invokevirtual 163, 3) := by decide +kernel
theorem dX3_octet_29 : decode cX3_octet 29 = .ok (.ireturn, 1) := by decide +kernel
theorem dX3_isMark_0 : decode cX3_isMark 0 = .ok (.iload_n 0, 1) := by decide +kernel
theorem dX3_isMark_1 : decode cX3_isMark 1 = .ok (.bipush 29, 2) := by decide +kernel
theorem dX3_isMark_3 : decode cX3_isMark 3 = .ok (.if_icmp .lt 13, 3) := by decide +kernel
theorem dX3_isMark_6 : decode cX3_isMark 6 = .ok (.iload_n 0, 1) := by decide +kernel
theorem dX3_isMark_7 : decode cX3_isMark 7 = .ok (.bipush 31, 2) := by decide +kernel
theorem dX3_isMark_9 : decode cX3_isMark 9 = .ok (.if_icmp .gt 7, 3) := by decide +kernel
theorem dX3_isMark_12 : decode cX3_isMark 12 = .ok (.iconst 1, 1) := by decide +kernel
theorem dX3_isMark_13 : decode cX3_isMark 13 = .ok (.goto 4, 3) := by decide +kernel
theorem dX3_isMark_16 : decode cX3_isMark 16 = .ok (.iconst 0, 1) := by decide +kernel
theorem dX3_isMark_17 : decode cX3_isMark 17 = .ok (.ireturn, 1) := by decide +kernel
theorem dX3_isDigit_0 : decode cX3_isDigit 0 = .ok (.iload_n 0, 1) := by decide +kernel
theorem dX3_isDigit_1 : decode cX3_isDigit 1 = .ok (.bipush 48, 2) := by decide +kernel
theorem dX3_isDigit_3 : decode cX3_isDigit 3 = .ok (.if_icmp .lt 13, 3) := by decide +kernel
theorem dX3_isDigit_6 : decode cX3_isDigit 6 = .ok (.iload_n 0, 1) := by decide +kernel
theorem dX3_isDigit_7 : decode cX3_isDigit 7 = .ok (.bipush 57, 2) := by decide +kernel
theorem dX3_isDigit_9 : decode cX3_isDigit 9 = .ok (.if_icmp .gt 7, 3) := by decide +kernel
theorem dX3_isDigit_12 : decode cX3_isDigit 12 = .ok (.iconst 1, 1) := by decide +kernel
theorem dX3_isDigit_13 : decode cX3_isDigit 13 = .ok (.goto 4, 3) := by decide +kernel
theorem dX3_isDigit_16 : decode cX3_isDigit 16 = .ok (.iconst 0, 1) := by decide +kernel
theorem dX3_isDigit_17 : decode cX3_isDigit 17 = .ok (.ireturn, 1) := by decide +kernel
theorem dX3_isControl_0 : decode cX3_isControl 0 = .ok (.iload_n 0, 1) := by decide +kernel
theorem dX3_isControl_1 : decode cX3_isControl 1 = .ok (.bipush 9, 2) := by decide +kernel
theorem dX3_isControl_3 : decode cX3_isControl 3 = .ok (.if_icmp .gt 7, 3) := by decide +kernel
theorem dX3_isControl_6 : decode cX3_isControl 6 = .ok (.iconst 1, 1) := by decide +kernel
theorem dX3_isControl_7 : decode cX3_isControl 7 = .ok (.goto 4, 3) := by decide +kernel
theorem dX3_isControl_10 : decode cX3_isControl 10 = .ok (.iconst 0, 1) := by decide +kernel
theorem dX3_isControl_11 : decode cX3_isControl 11 = .ok (.ireturn, 1) := by decide +kernel
theorem dX3_fixedByte_0 : decode cX3_fixedByte 0 = .ok (.iload_n 0, 1) := by decide +kernel
theorem dX3_fixedByte_1 : decode cX3_fixedByte 1 = .ok (.lookupswitch 52 #[(10, 43), (11, 43), (20, 46), (21, 49)], 43) := by decide +kernel
theorem dX3_fixedByte_44 : decode cX3_fixedByte 44 = .ok (.bipush 50, 2) := by decide +kernel
theorem dX3_fixedByte_46 : decode cX3_fixedByte 46 = .ok (.ireturn, 1) := by decide +kernel
theorem dX3_fixedByte_47 : decode cX3_fixedByte 47 = .ok (.bipush 52, 2) := by decide +kernel
theorem dX3_fixedByte_49 : decode cX3_fixedByte 49 = .ok (.ireturn, 1) := by decide +kernel
theorem dX3_fixedByte_50 : decode cX3_fixedByte 50 = .ok (.bipush 53, 2) := by decide +kernel
theorem dX3_fixedByte_52 : decode cX3_fixedByte 52 = .ok (.ireturn, 1) := by decide +kernel
theorem dX3_fixedByte_53 : decode cX3_fixedByte 53 = .ok (.iconst (-1), 1) := by decide +kernel
theorem dX3_fixedByte_54 : decode cX3_fixedByte 54 = .ok (.ireturn, 1) := by decide +kernel
theorem dX3_isFree_0 : decode cX3_isFree 0 = .ok (.iload_n 0, 1) := by decide +kernel
theorem dX3_isFree_1 : decode cX3_isFree 1 = .ok (.iconst 5, 1) := by decide +kernel
theorem dX3_isFree_2 : decode cX3_isFree 2 = .ok (.if_icmp .ge 7, 3) := by decide +kernel
theorem dX3_isFree_5 : decode cX3_isFree 5 = .ok (.iconst 1, 1) := by decide +kernel
theorem dX3_isFree_6 : decode cX3_isFree 6 = .ok (.goto 4, 3) := by decide +kernel
theorem dX3_isFree_9 : decode cX3_isFree 9 = .ok (.iconst 0, 1) := by decide +kernel
theorem dX3_isFree_10 : decode cX3_isFree 10 = .ok (.istore_n 1, 1) := by decide +kernel
theorem dX3_isFree_11 : decode cX3_isFree 11 = .ok (.iload_n 0, 1) := by decide +kernel
theorem dX3_isFree_12 : decode cX3_isFree 12 = .ok (.bipush 12, 2) := by decide +kernel
theorem dX3_isFree_14 : decode cX3_isFree 14 = .ok (.if_icmp .lt 13, 3) := by decide +kernel
theorem dX3_isFree_17 : decode cX3_isFree 17 = .ok (.iload_n 0, 1) := by decide +kernel
theorem dX3_isFree_18 : decode cX3_isFree 18 = .ok (.bipush 17, 2) := by decide +kernel
theorem dX3_isFree_20 : decode cX3_isFree 20 = .ok (.if_icmp .ge 7, 3) := by decide +kernel
theorem dX3_isFree_23 : decode cX3_isFree 23 = .ok (.iconst 1, 1) := by decide +kernel
theorem dX3_isFree_24 : decode cX3_isFree 24 = .ok (.goto 4, 3) := by decide +kernel
theorem dX3_isFree_27 : decode cX3_isFree 27 = .ok (.iconst 0, 1) := by decide +kernel
theorem dX3_isFree_28 : decode cX3_isFree 28 = .ok (.istore_n 2, 1) := by decide +kernel
theorem dX3_isFree_29 : decode cX3_isFree 29 = .ok (.iload_n 1, 1) := by decide +kernel
theorem dX3_isFree_30 : decode cX3_isFree 30 = .ok (.ifCond .ne 25, 3) := by decide +kernel
theorem dX3_isFree_33 : decode cX3_isFree 33 = .ok (.iload_n 2, 1) := by decide +kernel
theorem dX3_isFree_34 : decode cX3_isFree 34 = .ok (.ifCond .ne 21, 3) := by decide +kernel
theorem dX3_isFree_37 : decode cX3_isFree 37 = .ok (.iload_n 0, 1) := by decide +kernel
theorem dX3_isFree_38 : decode cX3_isFree 38 = .ok (.bipush 24, 2) := by decide +kernel
theorem dX3_isFree_40 : decode cX3_isFree 40 = .ok (.if_icmp .ge 15, 3) := by decide +kernel
theorem dX3_isFree_43 : decode cX3_isFree 43 = .ok (.iload_n 0, 1) := by decide +kernel
theorem dX3_isFree_44 : decode cX3_isFree 44 = .ok (.invokestatic 166, 3) := by decide +kernel
theorem dX3_isFree_47 : decode cX3_isFree 47 = .ok (.iconst (-1), 1) := by decide +kernel
theorem dX3_isFree_48 : decode cX3_isFree 48 = .ok (.if_icmp .ne 7, 3) := by decide +kernel
theorem dX3_isFree_51 : decode cX3_isFree 51 = .ok (.iconst 1, 1) := by decide +kernel
theorem dX3_isFree_52 : decode cX3_isFree 52 = .ok (.goto 4, 3) := by decide +kernel
theorem dX3_isFree_55 : decode cX3_isFree 55 = .ok (.iconst 0, 1) := by decide +kernel
theorem dX3_isFree_56 : decode cX3_isFree 56 = .ok (.ireturn, 1) := by decide +kernel
theorem dX3_numbered_0 : decode cX3_numbered 0 = .ok (.iload_n 1, 1) := by decide +kernel
theorem dX3_numbered_1 : decode cX3_numbered 1 = .ok (.iconst 1, 1) := by decide +kernel
theorem dX3_numbered_2 : decode cX3_numbered 2 = .ok (.if_icmp .lt 11, 3) := by decide +kernel
theorem dX3_numbered_5 : decode cX3_numbered 5 = .ok (.iload_n 1, 1) := by decide +kernel
theorem dX3_numbered_6 : decode cX3_numbered 6 = .ok (.aload_n 0, 1) := by decide +kernel
theorem dX3_numbered_7 : decode cX3_numbered 7 = .ok (.getfield 46, 3) := by decide +kernel
theorem dX3_numbered_10 : decode cX3_numbered 10 = .ok (.if_icmp .le 7, 3) := by decide +kernel
theorem dX3_numbered_13 : decode cX3_numbered 13 = .ok (.aconst_null, 1) := by decide +kernel
theorem dX3_numbered_14 : decode cX3_numbered 14 = .ok (.goto 11, 3) := by decide +kernel
theorem dX3_numbered_17 : decode cX3_numbered 17 = .ok (.aload_n 0, 1) := by decide +kernel
theorem dX3_numbered_18 : decode cX3_numbered 18 = .ok (.getfield 29, 3) := by decide +kernel
theorem dX3_numbered_21 : decode cX3_numbered 21 = .ok (.iload_n 1, 1) := by decide +kernel
theorem dX3_numbered_22 : decode cX3_numbered 22 = .ok (.iconst 1, 1) := by decide +kernel
theorem dX3_numbered_23 : decode cX3_numbered 23 = .ok (.isub, 1) := by decide +kernel
theorem dX3_numbered_24 : decode cX3_numbered 24 = .ok (.aaload, 1) := by decide +kernel
theorem dX3_numbered_25 : decode cX3_numbered 25 = .ok (.areturn, 1) := by decide +kernel
theorem dX3_refuse_0 : decode cX3_refuse 0 = .ok (.aload_n 0, 1) := by decide +kernel
theorem dX3_refuse_1 : decode cX3_refuse 1 = .ok (.iconst 0, 1) := by decide +kernel
theorem dX3_refuse_2 : decode cX3_refuse 2 = .ok (.putfield 42, 3) := by decide +kernel
theorem dX3_refuse_5 : decode cX3_refuse 5 = .ok (.aload_n 0, 1) := by decide +kernel
theorem dX3_refuse_6 : decode cX3_refuse 6 = .ok (.iconst 0, 1) := by decide +kernel
theorem dX3_refuse_7 : decode cX3_refuse 7 = .ok (.putfield 46, 3) := by decide +kernel
theorem dX3_refuse_10 : decode cX3_refuse 10 = .ok (.aload_n 0, 1) := by decide +kernel
theorem dX3_refuse_11 : decode cX3_refuse 11 = .ok (.getfield 10, 3) := by decide +kernel
theorem dX3_refuse_14 : decode cX3_refuse 14 = .ok (.iload_n 2, 1) := by decide +kernel
theorem dX3_refuse_15 : decode cX3_refuse 15 = .ok (.invokevirtual 74, 3) := by decide +kernel
theorem dX3_refuse_18 : decode cX3_refuse 18 = .ok (.iconst (-1), 1) := by decide +kernel
theorem dX3_refuse_19 : decode cX3_refuse 19 = .ok (.iload_n 1, 1) := by decide +kernel
theorem dX3_refuse_20 : decode cX3_refuse 20 = .ok (.isub, 1) := by decide +kernel
theorem dX3_refuse_21 : decode cX3_refuse 21 = .ok (.ireturn, 1) := by decide +kernel
theorem dX3_takeRecord_0 : decode cX3_takeRecord 0 = .ok (.iconst 0, 1) := by decide +kernel
theorem dX3_takeRecord_1 : decode cX3_takeRecord 1 = .ok (.istore_n 1, 1) := by decide +kernel
theorem dX3_takeRecord_2 : decode cX3_takeRecord 2 = .ok (.iload_n 1, 1) := by decide +kernel
theorem dX3_takeRecord_3 : decode cX3_takeRecord 3 = .ok (.bipush 24, 2) := by decide +kernel
theorem dX3_takeRecord_5 : decode cX3_takeRecord 5 = .ok (.if_icmp .ge 24, 3) := by decide +kernel
theorem dX3_takeRecord_8 : decode cX3_takeRecord 8 = .ok (.aload_n 0, 1) := by decide +kernel
theorem dX3_takeRecord_9 : decode cX3_takeRecord 9 = .ok (.getfield 23, 3) := by decide +kernel
theorem dX3_takeRecord_12 : decode cX3_takeRecord 12 = .ok (.iload_n 1, 1) := by decide +kernel
theorem dX3_takeRecord_13 : decode cX3_takeRecord 13 = .ok (.aload_n 0, 1) := by decide +kernel
theorem dX3_takeRecord_14 : decode cX3_takeRecord 14 = .ok (.getfield 10, 3) := by decide +kernel
theorem dX3_takeRecord_17 : decode cX3_takeRecord 17 = .ok (.iload_n 1, 1) := by decide +kernel
theorem dX3_takeRecord_18 : decode cX3_takeRecord 18 = .ok (.invokevirtual 169, 3) := by decide +kernel
theorem dX3_takeRecord_21 : decode cX3_takeRecord 21 = .ok (.i2b, 1) := by decide +kernel
theorem dX3_takeRecord_22 : decode cX3_takeRecord 22 = .ok (.bastore, 1) := by decide +kernel
theorem dX3_takeRecord_23 : decode cX3_takeRecord 23 = .ok (.iinc 1 1, 3) := by decide +kernel
theorem dX3_takeRecord_26 : decode cX3_takeRecord 26 = .ok (.goto (-24), 3) := by decide +kernel
theorem dX3_takeRecord_29 : decode cX3_takeRecord 29 = .ok (.aload_n 0, 1) := by decide +kernel
theorem dX3_takeRecord_30 : decode cX3_takeRecord 30 = .ok (.getfield 10, 3) := by decide +kernel
theorem dX3_takeRecord_33 : decode cX3_takeRecord 33 = .ok (.bipush 12, 2) := by decide +kernel
theorem dX3_takeRecord_35 : decode cX3_takeRecord 35 = .ok (.iconst 5, 1) := by decide +kernel
theorem dX3_takeRecord_36 : decode cX3_takeRecord 36 = .ok (.invokevirtual 64, 3) := by decide +kernel
theorem dX3_takeRecord_39 : decode cX3_takeRecord 39 = .ok (.istore_n 1, 1) := by decide +kernel
theorem dX3_takeRecord_40 : decode cX3_takeRecord 40 = .ok (.aload_n 0, 1) := by decide +kernel
theorem dX3_takeRecord_41 : decode cX3_takeRecord 41 = .ok (.iload_n 1, 1) := by decide +kernel
theorem dX3_takeRecord_42 : decode cX3_takeRecord 42 = .ok (.bipush 25, 2) := by decide +kernel
theorem dX3_takeRecord_44 : decode cX3_takeRecord 44 = .ok (.isub, 1) := by decide +kernel
theorem dX3_takeRecord_45 : decode cX3_takeRecord 45 = .ok (.bipush 12, 2) := by decide +kernel
theorem dX3_takeRecord_47 : decode cX3_takeRecord 47 = .ok (.idiv, 1) := by decide +kernel
theorem dX3_takeRecord_48 : decode cX3_takeRecord 48 = .ok (.bipush 60, 2) := by decide +kernel
theorem dX3_takeRecord_50 : decode cX3_takeRecord 50 = .ok (.invokestatic 170, 3) := by decide +kernel
theorem dX3_takeRecord_53 : decode cX3_takeRecord 53 = .ok (.putfield 38, 3) := by decide +kernel
theorem dX3_takeRecord_56 : decode cX3_takeRecord 56 = .ok (.iconst 0, 1) := by decide +kernel
theorem dX3_takeRecord_57 : decode cX3_takeRecord 57 = .ok (.istore_n 2, 1) := by decide +kernel
theorem dX3_takeRecord_58 : decode cX3_takeRecord 58 = .ok (.iload_n 2, 1) := by decide +kernel
theorem dX3_takeRecord_59 : decode cX3_takeRecord 59 = .ok (.aload_n 0, 1) := by decide +kernel
theorem dX3_takeRecord_60 : decode cX3_takeRecord 60 = .ok (.getfield 38, 3) := by decide +kernel
theorem dX3_takeRecord_63 : decode cX3_takeRecord 63 = .ok (.if_icmp .ge 15, 3) := by decide +kernel
theorem dX3_takeRecord_66 : decode cX3_takeRecord 66 = .ok (.aload_n 0, 1) := by decide +kernel
theorem dX3_takeRecord_67 : decode cX3_takeRecord 67 = .ok (.iload_n 2, 1) := by decide +kernel
theorem dX3_takeRecord_68 : decode cX3_takeRecord 68 = .ok (.iload_n 1, 1) := by decide +kernel
theorem dX3_takeRecord_69 : decode cX3_takeRecord 69 = .ok (.invokevirtual 175, 3) := by decide +kernel
theorem dX3_takeRecord_72 : decode cX3_takeRecord 72 = .ok (.iinc 2 1, 3) := by decide +kernel
theorem dX3_takeRecord_75 : decode cX3_takeRecord 75 = .ok (.goto (-17), 3) := by decide +kernel
theorem dX3_takeRecord_78 : decode cX3_takeRecord 78 = .ok (.aload_n 0, 1) := by decide +kernel
theorem dX3_takeRecord_79 : decode cX3_takeRecord 79 = .ok (.aload_n 0, 1) := by decide +kernel
theorem dX3_takeRecord_80 : decode cX3_takeRecord 80 = .ok (.getfield 38, 3) := by decide +kernel
theorem dX3_takeRecord_83 : decode cX3_takeRecord 83 = .ok (.putfield 46, 3) := by decide +kernel
theorem dX3_takeRecord_86 : decode cX3_takeRecord 86 = .ok (.aload_n 0, 1) := by decide +kernel
theorem dX3_takeRecord_87 : decode cX3_takeRecord 87 = .ok (.iconst 1, 1) := by decide +kernel
theorem dX3_takeRecord_88 : decode cX3_takeRecord 88 = .ok (.putfield 42, 3) := by decide +kernel
theorem dX3_takeRecord_91 : decode cX3_takeRecord 91 = .ok (.return_, 1) := by decide +kernel
theorem dX3_takeRow_0 : decode cX3_takeRow 0 = .ok (.bipush 24, 2) := by decide +kernel
theorem dX3_takeRow_2 : decode cX3_takeRow 2 = .ok (.bipush 12, 2) := by decide +kernel
theorem dX3_takeRow_4 : decode cX3_takeRow 4 = .ok (.iload_n 1, 1) := by decide +kernel
theorem dX3_takeRow_5 : decode cX3_takeRow 5 = .ok (.imul, 1) := by decide +kernel
theorem dX3_takeRow_6 : decode cX3_takeRow 6 = .ok (.iadd, 1) := by decide +kernel
theorem dX3_takeRow_7 : decode cX3_takeRow 7 = .ok (.istore_n 3, 1) := by decide +kernel
theorem dX3_takeRow_8 : decode cX3_takeRow 8 = .ok (.aload_n 0, 1) := by decide +kernel
theorem dX3_takeRow_9 : decode cX3_takeRow 9 = .ok (.getfield 10, 3) := by decide +kernel
theorem dX3_takeRow_12 : decode cX3_takeRow 12 = .ok (.iload_n 3, 1) := by decide +kernel
theorem dX3_takeRow_13 : decode cX3_takeRow 13 = .ok (.iconst 3, 1) := by decide +kernel
theorem dX3_takeRow_14 : decode cX3_takeRow 14 = .ok (.invokevirtual 64, 3) := by decide +kernel
theorem dX3_takeRow_17 : decode cX3_takeRow 17 = .ok (.istore 4, 2) := by decide +kernel
theorem dX3_takeRow_19 : decode cX3_takeRow 19 = .ok (.aload_n 0, 1) := by decide +kernel
theorem dX3_takeRow_20 : decode cX3_takeRow 20 = .ok (.getfield 10, 3) := by decide +kernel
theorem dX3_takeRow_23 : decode cX3_takeRow 23 = .ok (.iload_n 3, 1) := by decide +kernel
theorem dX3_takeRow_24 : decode cX3_takeRow 24 = .ok (.iconst 3, 1) := by decide +kernel
theorem dX3_takeRow_25 : decode cX3_takeRow 25 = .ok (.iadd, 1) := by decide +kernel
theorem dX3_takeRow_26 : decode cX3_takeRow 26 = .ok (.iconst 4, 1) := by decide +kernel
theorem dX3_takeRow_27 : decode cX3_takeRow 27 = .ok (.invokevirtual 64, 3) := by decide +kernel
theorem dX3_takeRow_30 : decode cX3_takeRow 30 = .ok (.istore 5, 2) := by decide +kernel
theorem dX3_takeRow_32 : decode cX3_takeRow 32 = .ok (.aload_n 0, 1) := by decide +kernel
theorem dX3_takeRow_33 : decode cX3_takeRow 33 = .ok (.getfield 10, 3) := by decide +kernel
theorem dX3_takeRow_36 : decode cX3_takeRow 36 = .ok (.iload_n 3, 1) := by decide +kernel
theorem dX3_takeRow_37 : decode cX3_takeRow 37 = .ok (.bipush 7, 2) := by decide +kernel
theorem dX3_takeRow_39 : decode cX3_takeRow 39 = .ok (.iadd, 1) := by decide +kernel
theorem dX3_takeRow_40 : decode cX3_takeRow 40 = .ok (.iconst 5, 1) := by decide +kernel
theorem dX3_takeRow_41 : decode cX3_takeRow 41 = .ok (.invokevirtual 64, 3) := by decide +kernel
theorem dX3_takeRow_44 : decode cX3_takeRow 44 = .ok (.istore 6, 2) := by decide +kernel
theorem dX3_takeRow_46 : decode cX3_takeRow 46 = .ok (.aload_n 0, 1) := by decide +kernel
theorem dX3_takeRow_47 : decode cX3_takeRow 47 = .ok (.getfield 34, 3) := by decide +kernel
theorem dX3_takeRow_50 : decode cX3_takeRow 50 = .ok (.iload_n 1, 1) := by decide +kernel
theorem dX3_takeRow_51 : decode cX3_takeRow 51 = .ok (.iconst 3, 1) := by decide +kernel
theorem dX3_takeRow_52 : decode cX3_takeRow 52 = .ok (.imul, 1) := by decide +kernel
theorem dX3_takeRow_53 : decode cX3_takeRow 53 = .ok (.iload 4, 2) := by decide +kernel
theorem dX3_takeRow_55 : decode cX3_takeRow 55 = .ok (.iastore, 1) := by decide +kernel
theorem dX3_takeRow_56 : decode cX3_takeRow 56 = .ok (.aload_n 0, 1) := by decide +kernel
theorem dX3_takeRow_57 : decode cX3_takeRow 57 = .ok (.getfield 34, 3) := by decide +kernel
theorem dX3_takeRow_60 : decode cX3_takeRow 60 = .ok (.iload_n 1, 1) := by decide +kernel
theorem dX3_takeRow_61 : decode cX3_takeRow 61 = .ok (.iconst 3, 1) := by decide +kernel
theorem dX3_takeRow_62 : decode cX3_takeRow 62 = .ok (.imul, 1) := by decide +kernel
theorem dX3_takeRow_63 : decode cX3_takeRow 63 = .ok (.iconst 1, 1) := by decide +kernel
theorem dX3_takeRow_64 : decode cX3_takeRow 64 = .ok (.iadd, 1) := by decide +kernel
theorem dX3_takeRow_65 : decode cX3_takeRow 65 = .ok (.iload 5, 2) := by decide +kernel
theorem dX3_takeRow_67 : decode cX3_takeRow 67 = .ok (.iastore, 1) := by decide +kernel
theorem dX3_takeRow_68 : decode cX3_takeRow 68 = .ok (.aload_n 0, 1) := by decide +kernel
theorem dX3_takeRow_69 : decode cX3_takeRow 69 = .ok (.getfield 34, 3) := by decide +kernel
theorem dX3_takeRow_72 : decode cX3_takeRow 72 = .ok (.iload_n 1, 1) := by decide +kernel
theorem dX3_takeRow_73 : decode cX3_takeRow 73 = .ok (.iconst 3, 1) := by decide +kernel
theorem dX3_takeRow_74 : decode cX3_takeRow 74 = .ok (.imul, 1) := by decide +kernel
theorem dX3_takeRow_75 : decode cX3_takeRow 75 = .ok (.iconst 2, 1) := by decide +kernel
theorem dX3_takeRow_76 : decode cX3_takeRow 76 = .ok (.iadd, 1) := by decide +kernel
theorem dX3_takeRow_77 : decode cX3_takeRow 77 = .ok (.iload 6, 2) := by decide +kernel
theorem dX3_takeRow_79 : decode cX3_takeRow 79 = .ok (.iastore, 1) := by decide +kernel
theorem dX3_takeRow_80 : decode cX3_takeRow 80 = .ok (.aload_n 0, 1) := by decide +kernel
theorem dX3_takeRow_81 : decode cX3_takeRow 81 = .ok (.aload_n 0, 1) := by decide +kernel
theorem dX3_takeRow_82 : decode cX3_takeRow 82 = .ok (.getfield 29, 3) := by decide +kernel
theorem dX3_takeRow_85 : decode cX3_takeRow 85 = .ok (.iload_n 1, 1) := by decide +kernel
theorem dX3_takeRow_86 : decode cX3_takeRow 86 = .ok (.aaload, 1) := by decide +kernel
theorem dX3_takeRow_87 : decode cX3_takeRow 87 = .ok (.iload 4, 2) := by decide +kernel
theorem dX3_takeRow_89 : decode cX3_takeRow 89 = .ok (.iload_n 2, 1) := by decide +kernel
theorem dX3_takeRow_90 : decode cX3_takeRow 90 = .ok (.iload 6, 2) := by decide +kernel
theorem dX3_takeRow_92 : decode cX3_takeRow 92 = .ok (.iadd, 1) := by decide +kernel
theorem dX3_takeRow_93 : decode cX3_takeRow 93 = .ok (.iload_n 2, 1) := by decide +kernel
theorem dX3_takeRow_94 : decode cX3_takeRow 94 = .ok (.iload 6, 2) := by decide +kernel
theorem dX3_takeRow_96 : decode cX3_takeRow 96 = .ok (.iadd, 1) := by decide +kernel
theorem dX3_takeRow_97 : decode cX3_takeRow 97 = .ok (.iload 5, 2) := by decide +kernel
theorem dX3_takeRow_99 : decode cX3_takeRow 99 = .ok (.iadd, 1) := by decide +kernel
theorem dX3_takeRow_100 : decode cX3_takeRow 100 = .ok (.iconst 1, 1) := by decide +kernel
theorem dX3_takeRow_101 : decode cX3_takeRow 101 = .ok (.isub, 1) := by decide +kernel
theorem dX3_takeRow_102 : decode cX3_takeRow 102 = .ok (.invokevirtual 178, 3) := by decide +kernel
theorem dX3_takeRow_105 : decode cX3_takeRow 105 = .ok (.return_, 1) := by decide +kernel
theorem dX3_takeField_0 : decode cX3_takeField 0 = .ok (.iload_n 3, 1) := by decide +kernel
theorem dX3_takeField_1 : decode cX3_takeField 1 = .ok (.istore 5, 2) := by decide +kernel
theorem dX3_takeField_3 : decode cX3_takeField 3 = .ok (.iload_n 2, 1) := by decide +kernel
theorem dX3_takeField_4 : decode cX3_takeField 4 = .ok (.invokestatic 85, 3) := by decide +kernel
theorem dX3_takeField_7 : decode cX3_takeField 7 = .ok (.ifCond .eq 13, 3) := by decide +kernel
theorem dX3_takeField_10 : decode cX3_takeField 10 = .ok (.aload_n 1, 1) := by decide +kernel
theorem dX3_takeField_11 : decode cX3_takeField 11 = .ok (.iload_n 2, 1) := by decide +kernel
theorem dX3_takeField_12 : decode cX3_takeField 12 = .ok (.iconst 0, 1) := by decide +kernel
theorem dX3_takeField_13 : decode cX3_takeField 13 = .ok (.iconst 0, 1) := by decide +kernel
theorem dX3_takeField_14 : decode cX3_takeField 14 = .ok (.invokevirtual 120, 3) := by decide +kernel
theorem dX3_takeField_17 : decode cX3_takeField 17 = .ok (.goto 31, 3) := by decide +kernel
theorem dX3_takeField_20 : decode cX3_takeField 20 = .ok (.aload_n 1, 1) := by decide +kernel
theorem dX3_takeField_21 : decode cX3_takeField 21 = .ok (.iload_n 2, 1) := by decide +kernel
theorem dX3_takeField_22 : decode cX3_takeField 22 = .ok (.aload_n 0, 1) := by decide +kernel
theorem dX3_takeField_23 : decode cX3_takeField 23 = .ok (.getfield 10, 3) := by decide +kernel
theorem dX3_takeField_26 : decode cX3_takeField 26 = .ok (.iload_n 3, 1) := by decide +kernel
theorem dX3_takeField_27 : decode cX3_takeField 27 = .ok (.invokevirtual 169, 3) := by decide +kernel
theorem dX3_takeField_30 : decode cX3_takeField 30 = .ok (.aload_n 0, 1) := by decide +kernel
theorem dX3_takeField_31 : decode cX3_takeField 31 = .ok (.getfield 10, 3) := by decide +kernel
theorem dX3_takeField_34 : decode cX3_takeField 34 = .ok (.iload_n 3, 1) := by decide +kernel
theorem dX3_takeField_35 : decode cX3_takeField 35 = .ok (.iconst 1, 1) := by decide +kernel
theorem dX3_takeField_36 : decode cX3_takeField 36 = .ok (.iadd, 1) := by decide +kernel
theorem dX3_takeField_37 : decode cX3_takeField 37 = .ok (.invokevirtual 169, 3) := by decide +kernel
theorem dX3_takeField_40 : decode cX3_takeField 40 = .ok (.invokevirtual 120, 3) := by decide +kernel
theorem dX3_takeField_43 : decode cX3_takeField 43 = .ok (.iload_n 3, 1) := by decide +kernel
theorem dX3_takeField_44 : decode cX3_takeField 44 = .ok (.iconst 2, 1) := by decide +kernel
theorem dX3_takeField_45 : decode cX3_takeField 45 = .ok (.iadd, 1) := by decide +kernel
theorem dX3_takeField_46 : decode cX3_takeField 46 = .ok (.istore 5, 2) := by decide +kernel
theorem dX3_takeField_48 : decode cX3_takeField 48 = .ok (.iload 5, 2) := by decide +kernel
theorem dX3_takeField_50 : decode cX3_takeField 50 = .ok (.iload 4, 2) := by decide +kernel
theorem dX3_takeField_52 : decode cX3_takeField 52 = .ok (.if_icmp .ge 22, 3) := by decide +kernel
theorem dX3_takeField_55 : decode cX3_takeField 55 = .ok (.aload_n 1, 1) := by decide +kernel
theorem dX3_takeField_56 : decode cX3_takeField 56 = .ok (.aload_n 0, 1) := by decide +kernel
theorem dX3_takeField_57 : decode cX3_takeField 57 = .ok (.getfield 10, 3) := by decide +kernel
theorem dX3_takeField_60 : decode cX3_takeField 60 = .ok (.iload 5, 2) := by decide +kernel
theorem dX3_takeField_62 : decode cX3_takeField 62 = .ok (.invokevirtual 169, 3) := by decide +kernel
theorem dX3_takeField_65 : decode cX3_takeField 65 = .ok (.invokevirtual 133, 3) := by decide +kernel
theorem dX3_takeField_68 : decode cX3_takeField 68 = .ok (.iinc 5 1, 3) := by decide +kernel
theorem dX3_takeField_71 : decode cX3_takeField 71 = .ok (.goto (-23), 3) := by decide +kernel
theorem dX3_takeField_74 : decode cX3_takeField 74 = .ok (.return_, 1) := by decide +kernel
theorem dX3_heldBytes_0 : decode cX3_heldBytes 0 = .ok (.iconst 0, 1) := by decide +kernel
theorem dX3_heldBytes_1 : decode cX3_heldBytes 1 = .ok (.istore_n 1, 1) := by decide +kernel
theorem dX3_heldBytes_2 : decode cX3_heldBytes 2 = .ok (.iconst 0, 1) := by decide +kernel
theorem dX3_heldBytes_3 : decode cX3_heldBytes 3 = .ok (.istore_n 2, 1) := by decide +kernel
theorem dX3_heldBytes_4 : decode cX3_heldBytes 4 = .ok (.iload_n 2, 1) := by decide +kernel
theorem dX3_heldBytes_5 : decode cX3_heldBytes 5 = .ok (.aload_n 0, 1) := by decide +kernel
theorem dX3_heldBytes_6 : decode cX3_heldBytes 6 = .ok (.getfield 46, 3) := by decide +kernel
theorem dX3_heldBytes_9 : decode cX3_heldBytes 9 = .ok (.if_icmp .ge 21, 3) := by decide +kernel
theorem dX3_heldBytes_12 : decode cX3_heldBytes 12 = .ok (.iload_n 1, 1) := by decide +kernel
theorem dX3_heldBytes_13 : decode cX3_heldBytes 13 = .ok (.aload_n 0, 1) := by decide +kernel
theorem dX3_heldBytes_14 : decode cX3_heldBytes 14 = .ok (.getfield 29, 3) := by decide +kernel
theorem dX3_heldBytes_17 : decode cX3_heldBytes 17 = .ok (.iload_n 2, 1) := by decide +kernel
theorem dX3_heldBytes_18 : decode cX3_heldBytes 18 = .ok (.aaload, 1) := by decide +kernel
theorem dX3_heldBytes_19 : decode cX3_heldBytes 19 = .ok (.invokevirtual 182, 3) := by decide +kernel
theorem dX3_heldBytes_22 : decode cX3_heldBytes 22 = .ok (.iadd, 1) := by decide +kernel
theorem dX3_heldBytes_23 : decode cX3_heldBytes 23 = .ok (.istore_n 1, 1) := by decide +kernel
theorem dX3_heldBytes_24 : decode cX3_heldBytes 24 = .ok (.iinc 2 1, 3) := by decide +kernel
theorem dX3_heldBytes_27 : decode cX3_heldBytes 27 = .ok (.goto (-23), 3) := by decide +kernel
theorem dX3_heldBytes_30 : decode cX3_heldBytes 30 = .ok (.iload_n 1, 1) := by decide +kernel
theorem dX3_heldBytes_31 : decode cX3_heldBytes 31 = .ok (.ireturn, 1) := by decide +kernel
theorem dX3_hasMarkAsIndicator_0 : decode cX3_hasMarkAsIndicator 0 = .ok (.iconst 0, 1) := by decide +kernel
theorem dX3_hasMarkAsIndicator_1 : decode cX3_hasMarkAsIndicator 1 = .ok (.istore_n 1, 1) := by decide +kernel
theorem dX3_hasMarkAsIndicator_2 : decode cX3_hasMarkAsIndicator 2 = .ok (.iload_n 1, 1) := by decide +kernel
theorem dX3_hasMarkAsIndicator_3 : decode cX3_hasMarkAsIndicator 3 = .ok (.aload_n 0, 1) := by decide +kernel
theorem dX3_hasMarkAsIndicator_4 : decode cX3_hasMarkAsIndicator 4 = .ok (.getfield 46, 3) := by decide +kernel
theorem dX3_hasMarkAsIndicator_7 : decode cX3_hasMarkAsIndicator 7 = .ok (.if_icmp .ge 48, 3) := by decide +kernel
theorem dX3_hasMarkAsIndicator_10 : decode cX3_hasMarkAsIndicator 10 = .ok (.aload_n 0, 1) := by decide +kernel
theorem dX3_hasMarkAsIndicator_11 : decode cX3_hasMarkAsIndicator 11 = .ok (.getfield 29, 3) := by decide +kernel
theorem dX3_hasMarkAsIndicator_14 : decode cX3_hasMarkAsIndicator 14 = .ok (.iload_n 1, 1) := by decide +kernel
theorem dX3_hasMarkAsIndicator_15 : decode cX3_hasMarkAsIndicator 15 = .ok (.aaload, 1) := by decide +kernel
theorem dX3_hasMarkAsIndicator_16 : decode cX3_hasMarkAsIndicator 16 = .ok (.astore_n 2, 1) := by decide +kernel
theorem dX3_hasMarkAsIndicator_17 : decode cX3_hasMarkAsIndicator 17 = .ok (.aload_n 2, 1) := by decide +kernel
theorem dX3_hasMarkAsIndicator_18 : decode cX3_hasMarkAsIndicator 18 = .ok (.getfield 78, 3) := by decide +kernel
theorem dX3_hasMarkAsIndicator_21 : decode cX3_hasMarkAsIndicator 21 = .ok (.invokestatic 85, 3) := by decide +kernel
theorem dX3_hasMarkAsIndicator_24 : decode cX3_hasMarkAsIndicator 24 = .ok (.ifCond .ne 25, 3) := by decide +kernel
theorem dX3_hasMarkAsIndicator_27 : decode cX3_hasMarkAsIndicator 27 = .ok (.aload_n 2, 1) := by decide +kernel
theorem dX3_hasMarkAsIndicator_28 : decode cX3_hasMarkAsIndicator 28 = .ok (.getfield 89, 3) := by decide +kernel
theorem dX3_hasMarkAsIndicator_31 : decode cX3_hasMarkAsIndicator 31 = .ok (.invokestatic 124, 3) := by decide +kernel
theorem dX3_hasMarkAsIndicator_34 : decode cX3_hasMarkAsIndicator 34 = .ok (.ifCond .ne 13, 3) := by decide +kernel
theorem dX3_hasMarkAsIndicator_37 : decode cX3_hasMarkAsIndicator 37 = .ok (.aload_n 2, 1) := by decide +kernel
theorem dX3_hasMarkAsIndicator_38 : decode cX3_hasMarkAsIndicator 38 = .ok (.getfield 92, 3) := by decide +kernel
theorem dX3_hasMarkAsIndicator_41 : decode cX3_hasMarkAsIndicator 41 = .ok (.invokestatic 124, 3) := by decide +kernel
theorem dX3_hasMarkAsIndicator_44 : decode cX3_hasMarkAsIndicator 44 = .ok (.ifCond .eq 5, 3) := by decide +kernel
theorem dX3_hasMarkAsIndicator_47 : decode cX3_hasMarkAsIndicator 47 = .ok (.iconst 1, 1) := by decide +kernel
theorem dX3_hasMarkAsIndicator_48 : decode cX3_hasMarkAsIndicator 48 = .ok (.ireturn, 1) := by decide +kernel
theorem dX3_hasMarkAsIndicator_49 : decode cX3_hasMarkAsIndicator 49 = .ok (.iinc 1 1, 3) := by decide +kernel
theorem dX3_hasMarkAsIndicator_52 : decode cX3_hasMarkAsIndicator 52 = .ok (.goto (-50), 3) := by decide +kernel
theorem dX3_hasMarkAsIndicator_55 : decode cX3_hasMarkAsIndicator 55 = .ok (.iconst 0, 1) := by decide +kernel
theorem dX3_hasMarkAsIndicator_56 : decode cX3_hasMarkAsIndicator 56 = .ok (.ireturn, 1) := by decide +kernel
theorem dX3_emitLeader_0 : decode cX3_emitLeader 0 = .ok (.aload_n 0, 1) := by decide +kernel
theorem dX3_emitLeader_1 : decode cX3_emitLeader 1 = .ok (.getfield 19, 3) := by decide +kernel
theorem dX3_emitLeader_4 : decode cX3_emitLeader 4 = .ok (.iload_n 1, 1) := by decide +kernel
theorem dX3_emitLeader_5 : decode cX3_emitLeader 5 = .ok (.iconst 5, 1) := by decide +kernel
theorem dX3_emitLeader_6 : decode cX3_emitLeader 6 = .ok (.invokevirtual 183, 3) := by decide +kernel
theorem dX3_emitLeader_9 : decode cX3_emitLeader 9 = .ok (.aload_n 0, 1) := by decide +kernel
theorem dX3_emitLeader_10 : decode cX3_emitLeader 10 = .ok (.iconst 5, 1) := by decide +kernel
theorem dX3_emitLeader_11 : decode cX3_emitLeader 11 = .ok (.bipush 12, 2) := by decide +kernel
theorem dX3_emitLeader_13 : decode cX3_emitLeader 13 = .ok (.invokevirtual 186, 3) := by decide +kernel
theorem dX3_emitLeader_16 : decode cX3_emitLeader 16 = .ok (.aload_n 0, 1) := by decide +kernel
theorem dX3_emitLeader_17 : decode cX3_emitLeader 17 = .ok (.getfield 19, 3) := by decide +kernel
theorem dX3_emitLeader_20 : decode cX3_emitLeader 20 = .ok (.iload_n 2, 1) := by decide +kernel
theorem dX3_emitLeader_21 : decode cX3_emitLeader 21 = .ok (.iconst 5, 1) := by decide +kernel
theorem dX3_emitLeader_22 : decode cX3_emitLeader 22 = .ok (.invokevirtual 183, 3) := by decide +kernel
theorem dX3_emitLeader_25 : decode cX3_emitLeader 25 = .ok (.aload_n 0, 1) := by decide +kernel
theorem dX3_emitLeader_26 : decode cX3_emitLeader 26 = .ok (.bipush 17, 2) := by decide +kernel
theorem dX3_emitLeader_28 : decode cX3_emitLeader 28 = .ok (.bipush 24, 2) := by decide +kernel
theorem dX3_emitLeader_30 : decode cX3_emitLeader 30 = .ok (.invokevirtual 186, 3) := by decide +kernel
theorem dX3_emitLeader_33 : decode cX3_emitLeader 33 = .ok (.return_, 1) := by decide +kernel
theorem dX3_emitLeaderBytes_0 : decode cX3_emitLeaderBytes 0 = .ok (.iload_n 1, 1) := by decide +kernel
theorem dX3_emitLeaderBytes_1 : decode cX3_emitLeaderBytes 1 = .ok (.istore_n 3, 1) := by decide +kernel
theorem dX3_emitLeaderBytes_2 : decode cX3_emitLeaderBytes 2 = .ok (.iload_n 3, 1) := by decide +kernel
theorem dX3_emitLeaderBytes_3 : decode cX3_emitLeaderBytes 3 = .ok (.iload_n 2, 1) := by decide +kernel
theorem dX3_emitLeaderBytes_4 : decode cX3_emitLeaderBytes 4 = .ok (.if_icmp .ge 39, 3) := by decide +kernel
theorem dX3_emitLeaderBytes_7 : decode cX3_emitLeaderBytes 7 = .ok (.iload_n 3, 1) := by decide +kernel
theorem dX3_emitLeaderBytes_8 : decode cX3_emitLeaderBytes 8 = .ok (.invokestatic 166, 3) := by decide +kernel
theorem dX3_emitLeaderBytes_11 : decode cX3_emitLeaderBytes 11 = .ok (.istore 4, 2) := by decide +kernel
theorem dX3_emitLeaderBytes_13 : decode cX3_emitLeaderBytes 13 = .ok (.aload_n 0, 1) := by decide +kernel
theorem dX3_emitLeaderBytes_14 : decode cX3_emitLeaderBytes 14 = .ok (.getfield 19, 3) := by decide +kernel
theorem dX3_emitLeaderBytes_17 : decode cX3_emitLeaderBytes 17 = .ok (.iload 4, 2) := by decide +kernel
theorem dX3_emitLeaderBytes_19 : decode cX3_emitLeaderBytes 19 = .ok (.iconst (-1), 1) := by decide +kernel
theorem dX3_emitLeaderBytes_20 : decode cX3_emitLeaderBytes 20 = .ok (.if_icmp .ne 12, 3) := by decide +kernel
theorem dX3_emitLeaderBytes_23 : decode cX3_emitLeaderBytes 23 = .ok (.aload_n 0, 1) := by decide +kernel
theorem dX3_emitLeaderBytes_24 : decode cX3_emitLeaderBytes 24 = .ok (.getfield 23, 3) := by decide +kernel
theorem dX3_emitLeaderBytes_27 : decode cX3_emitLeaderBytes 27 = .ok (.iload_n 3, 1) := by decide +kernel
theorem dX3_emitLeaderBytes_28 : decode cX3_emitLeaderBytes 28 = .ok (.baload, 1) := by decide +kernel
theorem dX3_emitLeaderBytes_29 : decode cX3_emitLeaderBytes 29 = .ok (.goto 5, 3) := by decide +kernel
theorem dX3_emitLeaderBytes_32 : decode cX3_emitLeaderBytes 32 = .ok (.iload 4, 2) := by decide +kernel
theorem dX3_emitLeaderBytes_34 : decode cX3_emitLeaderBytes 34 = .ok (.invokevirtual 155, 3) := by decide +kernel
theorem dX3_emitLeaderBytes_37 : decode cX3_emitLeaderBytes 37 = .ok (.iinc 3 1, 3) := by decide +kernel
theorem dX3_emitLeaderBytes_40 : decode cX3_emitLeaderBytes 40 = .ok (.goto (-38), 3) := by decide +kernel
theorem dX3_emitLeaderBytes_43 : decode cX3_emitLeaderBytes 43 = .ok (.return_, 1) := by decide +kernel
theorem dX3_emitDirectory_0 : decode cX3_emitDirectory 0 = .ok (.iconst 0, 1) := by decide +kernel
theorem dX3_emitDirectory_1 : decode cX3_emitDirectory 1 = .ok (.istore_n 1, 1) := by decide +kernel
theorem dX3_emitDirectory_2 : decode cX3_emitDirectory 2 = .ok (.iconst 0, 1) := by decide +kernel
theorem dX3_emitDirectory_3 : decode cX3_emitDirectory 3 = .ok (.istore_n 2, 1) := by decide +kernel
theorem dX3_emitDirectory_4 : decode cX3_emitDirectory 4 = .ok (.iload_n 2, 1) := by decide +kernel
theorem dX3_emitDirectory_5 : decode cX3_emitDirectory 5 = .ok (.aload_n 0, 1) := by decide +kernel
theorem dX3_emitDirectory_6 : decode cX3_emitDirectory 6 = .ok (.getfield 46, 3) := by decide +kernel
theorem dX3_emitDirectory_9 : decode cX3_emitDirectory 9 = .ok (.if_icmp .ge 58, 3) := by decide +kernel
theorem dX3_emitDirectory_12 : decode cX3_emitDirectory 12 = .ok (.aload_n 0, 1) := by decide +kernel
theorem dX3_emitDirectory_13 : decode cX3_emitDirectory 13 = .ok (.getfield 29, 3) := by decide +kernel
theorem dX3_emitDirectory_16 : decode cX3_emitDirectory 16 = .ok (.iload_n 2, 1) := by decide +kernel
theorem dX3_emitDirectory_17 : decode cX3_emitDirectory 17 = .ok (.aaload, 1) := by decide +kernel
theorem dX3_emitDirectory_18 : decode cX3_emitDirectory 18 = .ok (.invokevirtual 139, 3) := by decide +kernel
theorem dX3_emitDirectory_21 : decode cX3_emitDirectory 21 = .ok (.istore_n 3, 1) := by decide +kernel
theorem dX3_emitDirectory_22 : decode cX3_emitDirectory 22 = .ok (.aload_n 0, 1) := by decide +kernel
theorem dX3_emitDirectory_23 : decode cX3_emitDirectory 23 = .ok (.getfield 19, 3) := by decide +kernel
theorem dX3_emitDirectory_26 : decode cX3_emitDirectory 26 = .ok (.aload_n 0, 1) := by decide +kernel
theorem dX3_emitDirectory_27 : decode cX3_emitDirectory 27 = .ok (.getfield 29, 3) := by decide +kernel
theorem dX3_emitDirectory_30 : decode cX3_emitDirectory 30 = .ok (.iload_n 2, 1) := by decide +kernel
theorem dX3_emitDirectory_31 : decode cX3_emitDirectory 31 = .ok (.aaload, 1) := by decide +kernel
theorem dX3_emitDirectory_32 : decode cX3_emitDirectory 32 = .ok (.getfield 78, 3) := by decide +kernel
theorem dX3_emitDirectory_35 : decode cX3_emitDirectory 35 = .ok (.iconst 3, 1) := by decide +kernel
theorem dX3_emitDirectory_36 : decode cX3_emitDirectory 36 = .ok (.invokevirtual 183, 3) := by decide +kernel
theorem dX3_emitDirectory_39 : decode cX3_emitDirectory 39 = .ok (.aload_n 0, 1) := by decide +kernel
theorem dX3_emitDirectory_40 : decode cX3_emitDirectory 40 = .ok (.getfield 19, 3) := by decide +kernel
theorem dX3_emitDirectory_43 : decode cX3_emitDirectory 43 = .ok (.iload_n 3, 1) := by decide +kernel
theorem dX3_emitDirectory_44 : decode cX3_emitDirectory 44 = .ok (.iconst 4, 1) := by decide +kernel
theorem dX3_emitDirectory_45 : decode cX3_emitDirectory 45 = .ok (.invokevirtual 183, 3) := by decide +kernel
theorem dX3_emitDirectory_48 : decode cX3_emitDirectory 48 = .ok (.aload_n 0, 1) := by decide +kernel
theorem dX3_emitDirectory_49 : decode cX3_emitDirectory 49 = .ok (.getfield 19, 3) := by decide +kernel
theorem dX3_emitDirectory_52 : decode cX3_emitDirectory 52 = .ok (.iload_n 1, 1) := by decide +kernel
theorem dX3_emitDirectory_53 : decode cX3_emitDirectory 53 = .ok (.iconst 5, 1) := by decide +kernel
theorem dX3_emitDirectory_54 : decode cX3_emitDirectory 54 = .ok (.invokevirtual 183, 3) := by decide +kernel
theorem dX3_emitDirectory_57 : decode cX3_emitDirectory 57 = .ok (.iload_n 1, 1) := by decide +kernel
theorem dX3_emitDirectory_58 : decode cX3_emitDirectory 58 = .ok (.iload_n 3, 1) := by decide +kernel
theorem dX3_emitDirectory_59 : decode cX3_emitDirectory 59 = .ok (.iadd, 1) := by decide +kernel
theorem dX3_emitDirectory_60 : decode cX3_emitDirectory 60 = .ok (.istore_n 1, 1) := by decide +kernel
theorem dX3_emitDirectory_61 : decode cX3_emitDirectory 61 = .ok (.iinc 2 1, 3) := by decide +kernel
theorem dX3_emitDirectory_64 : decode cX3_emitDirectory 64 = .ok (.goto (-60), 3) := by decide +kernel
theorem dX3_emitDirectory_67 : decode cX3_emitDirectory 67 = .ok (.aload_n 0, 1) := by decide +kernel
theorem dX3_emitDirectory_68 : decode cX3_emitDirectory 68 = .ok (.getfield 19, 3) := by decide +kernel
theorem dX3_emitDirectory_71 : decode cX3_emitDirectory 71 = .ok (.bipush 30, 2) := by decide +kernel
theorem dX3_emitDirectory_73 : decode cX3_emitDirectory 73 = .ok (.invokevirtual 155, 3) := by decide +kernel
theorem dX3_emitDirectory_76 : decode cX3_emitDirectory 76 = .ok (.return_, 1) := by decide +kernel
theorem dX3_emitField_0 : decode cX3_emitField 0 = .ok (.aload_n 1, 1) := by decide +kernel
theorem dX3_emitField_1 : decode cX3_emitField 1 = .ok (.getfield 78, 3) := by decide +kernel
theorem dX3_emitField_4 : decode cX3_emitField 4 = .ok (.invokestatic 85, 3) := by decide +kernel
theorem dX3_emitField_7 : decode cX3_emitField 7 = .ok (.ifCond .ne 25, 3) := by decide +kernel
theorem dX3_emitField_10 : decode cX3_emitField 10 = .ok (.aload_n 0, 1) := by decide +kernel
theorem dX3_emitField_11 : decode cX3_emitField 11 = .ok (.getfield 19, 3) := by decide +kernel
theorem dX3_emitField_14 : decode cX3_emitField 14 = .ok (.aload_n 1, 1) := by decide +kernel
theorem dX3_emitField_15 : decode cX3_emitField 15 = .ok (.getfield 89, 3) := by decide +kernel
theorem dX3_emitField_18 : decode cX3_emitField 18 = .ok (.invokevirtual 155, 3) := by decide +kernel
theorem dX3_emitField_21 : decode cX3_emitField 21 = .ok (.aload_n 0, 1) := by decide +kernel
theorem dX3_emitField_22 : decode cX3_emitField 22 = .ok (.getfield 19, 3) := by decide +kernel
theorem dX3_emitField_25 : decode cX3_emitField 25 = .ok (.aload_n 1, 1) := by decide +kernel
theorem dX3_emitField_26 : decode cX3_emitField 26 = .ok (.getfield 92, 3) := by decide +kernel
theorem dX3_emitField_29 : decode cX3_emitField 29 = .ok (.invokevirtual 155, 3) := by decide +kernel
theorem dX3_emitField_32 : decode cX3_emitField 32 = .ok (.iconst 0, 1) := by decide +kernel
theorem dX3_emitField_33 : decode cX3_emitField 33 = .ok (.istore_n 2, 1) := by decide +kernel
theorem dX3_emitField_34 : decode cX3_emitField 34 = .ok (.iload_n 2, 1) := by decide +kernel
theorem dX3_emitField_35 : decode cX3_emitField 35 = .ok (.aload_n 1, 1) := by decide +kernel
theorem dX3_emitField_36 : decode cX3_emitField 36 = .ok (.getfield 189, 3) := by decide +kernel
theorem dX3_emitField_39 : decode cX3_emitField 39 = .ok (.if_icmp .ge 21, 3) := by decide +kernel
theorem dX3_emitField_42 : decode cX3_emitField 42 = .ok (.aload_n 0, 1) := by decide +kernel
theorem dX3_emitField_43 : decode cX3_emitField 43 = .ok (.getfield 19, 3) := by decide +kernel
theorem dX3_emitField_46 : decode cX3_emitField 46 = .ok (.aload_n 1, 1) := by decide +kernel
theorem dX3_emitField_47 : decode cX3_emitField 47 = .ok (.iload_n 2, 1) := by decide +kernel
theorem dX3_emitField_48 : decode cX3_emitField 48 = .ok (.invokevirtual 95, 3) := by decide +kernel
theorem dX3_emitField_51 : decode cX3_emitField 51 = .ok (.invokevirtual 155, 3) := by decide +kernel
theorem dX3_emitField_54 : decode cX3_emitField 54 = .ok (.iinc 2 1, 3) := by decide +kernel
theorem dX3_emitField_57 : decode cX3_emitField 57 = .ok (.goto (-23), 3) := by decide +kernel
theorem dX3_emitField_60 : decode cX3_emitField 60 = .ok (.aload_n 0, 1) := by decide +kernel
theorem dX3_emitField_61 : decode cX3_emitField 61 = .ok (.getfield 19, 3) := by decide +kernel
theorem dX3_emitField_64 : decode cX3_emitField 64 = .ok (.bipush 30, 2) := by decide +kernel
theorem dX3_emitField_66 : decode cX3_emitField 66 = .ok (.invokevirtual 155, 3) := by decide +kernel
theorem dX3_emitField_69 : decode cX3_emitField 69 = .ok (.return_, 1) := by decide +kernel
theorem dX4_init_0 : decode cX4_init 0 = .ok (.aload_n 0, 1) := by decide +kernel
theorem dX4_init_1 : decode cX4_init 1 = .ok (.invokespecial 1, 3) := by decide +kernel
theorem dX4_init_4 : decode cX4_init 4 = .ok (.aload_n 0, 1) := by decide +kernel
theorem dX4_init_5 : decode cX4_init 5 = .ok (.sipush 1500, 3) := by decide +kernel
theorem dX4_init_8 : decode cX4_init 8 = .ok (.newarray .byte, 2) := by decide +kernel
theorem dX4_init_10 : decode cX4_init 10 = .ok (.putfield 7, 3) := by decide +kernel
theorem dX4_init_13 : decode cX4_init 13 = .ok (.aload_n 0, 1) := by decide +kernel
theorem dX4_init_14 : decode cX4_init 14 = .ok (.bipush 24, 2) := by decide +kernel
theorem dX4_init_16 : decode cX4_init 16 = .ok (.newarray .byte, 2) := by decide +kernel
theorem dX4_init_18 : decode cX4_init 18 = .ok (.putfield 13, 3) := by decide +kernel
theorem dX4_init_21 : decode cX4_init 21 = .ok (.aload_n 0, 1) := by decide +kernel
theorem dX4_init_22 : decode cX4_init 22 = .ok (.bipush 60, 2) := by decide +kernel
theorem dX4_init_24 : decode cX4_init 24 = .ok (.newarray .int, 2) := by decide +kernel
theorem dX4_init_26 : decode cX4_init 26 = .ok (.putfield 16, 3) := by decide +kernel
theorem dX4_init_29 : decode cX4_init 29 = .ok (.aload_n 0, 1) := by decide +kernel
theorem dX4_init_30 : decode cX4_init 30 = .ok (.ldc 20, 2) := by decide +kernel
theorem dX4_init_32 : decode cX4_init 32 = .ok (.newarray .byte, 2) := by decide +kernel
theorem dX4_init_34 : decode cX4_init 34 = .ok (.putfield 21, 3) := by decide +kernel
theorem dX4_init_37 : decode cX4_init 37 = .ok (.aload_n 0, 1) := by decide +kernel
theorem dX4_init_38 : decode cX4_init 38 = .ok (.bipush 60, 2) := by decide +kernel
theorem dX4_init_40 : decode cX4_init 40 = .ok (.newarray .int, 2) := by decide +kernel
theorem dX4_init_42 : decode cX4_init 42 = .ok (.putfield 24, 3) := by decide +kernel
theorem dX4_init_45 : decode cX4_init 45 = .ok (.aload_n 0, 1) := by decide +kernel
theorem dX4_init_46 : decode cX4_init 46 = .ok (.sipush 180, 3) := by decide +kernel
theorem dX4_init_49 : decode cX4_init 49 = .ok (.newarray .int, 2) := by decide +kernel
theorem dX4_init_51 : decode cX4_init 51 = .ok (.putfield 27, 3) := by decide +kernel
theorem dX4_init_54 : decode cX4_init 54 = .ok (.aload_n 0, 1) := by decide +kernel
theorem dX4_init_55 : decode cX4_init 55 = .ok (.sipush 180, 3) := by decide +kernel
theorem dX4_init_58 : decode cX4_init 58 = .ok (.newarray .int, 2) := by decide +kernel
theorem dX4_init_60 : decode cX4_init 60 = .ok (.putfield 30, 3) := by decide +kernel
theorem dX4_init_63 : decode cX4_init 63 = .ok (.aload_n 0, 1) := by decide +kernel
theorem dX4_init_64 : decode cX4_init 64 = .ok (.ldc 33, 2) := by decide +kernel
theorem dX4_init_66 : decode cX4_init 66 = .ok (.newarray .byte, 2) := by decide +kernel
theorem dX4_init_68 : decode cX4_init 68 = .ok (.putfield 34, 3) := by decide +kernel
theorem dX4_init_71 : decode cX4_init 71 = .ok (.return_, 1) := by decide +kernel
theorem dX4_thrown_0 : decode cX4_thrown 0 = .ok (.aload_n 0, 1) := by decide +kernel
theorem dX4_thrown_1 : decode cX4_thrown 1 = .ok (.getfield 37, 3) := by decide +kernel
theorem dX4_thrown_4 : decode cX4_thrown 4 = .ok (.ireturn, 1) := by decide +kernel
theorem dX4_add_0 : decode cX4_add 0 = .ok (.aload_n 0, 1) := by decide +kernel
theorem dX4_add_1 : decode cX4_add 1 = .ok (.iconst 0, 1) := by decide +kernel
theorem dX4_add_2 : decode cX4_add 2 = .ok (.putfield 37, 3) := by decide +kernel
theorem dX4_add_5 : decode cX4_add 5 = .ok (.aload_n 0, 1) := by decide +kernel
theorem dX4_add_6 : decode cX4_add 6 = .ok (.getfield 41, 3) := by decide +kernel
theorem dX4_add_9 : decode cX4_add 9 = .ok (.sipush 1500, 3) := by decide +kernel
theorem dX4_add_12 : decode cX4_add 12 = .ok (.if_icmp .ge 23, 3) := by decide +kernel
theorem dX4_add_15 : decode cX4_add 15 = .ok (.aload_n 0, 1) := by decide +kernel
theorem dX4_add_16 : decode cX4_add 16 = .ok (.getfield 7, 3) := by decide +kernel
theorem dX4_add_19 : decode cX4_add 19 = .ok (.aload_n 0, 1) := by decide +kernel
theorem dX4_add_20 : decode cX4_add 20 = .ok (.getfield 41, 3) := by decide +kernel
theorem dX4_add_23 : decode cX4_add 23 = .ok (.iload_n 1, 1) := by decide +kernel
theorem dX4_add_24 : decode cX4_add 24 = .ok (.bastore, 1) := by decide +kernel
theorem dX4_add_25 : decode cX4_add 25 = .ok (.aload_n 0, 1) := by decide +kernel
theorem dX4_add_26 : decode cX4_add 26 = .ok (.dup, 1) := by decide +kernel
theorem dX4_add_27 : decode cX4_add 27 = .ok (.getfield 41, 3) := by decide +kernel
theorem dX4_add_30 : decode cX4_add 30 = .ok (.iconst 1, 1) := by decide +kernel
theorem dX4_add_31 : decode cX4_add 31 = .ok (.iadd, 1) := by decide +kernel
theorem dX4_add_32 : decode cX4_add 32 = .ok (.putfield 41, 3) := by decide +kernel
theorem dX4_add_35 : decode cX4_add 35 = .ok (.return_, 1) := by decide +kernel
theorem dX4_look_0 : decode cX4_look 0 = .ok (.aload_n 0, 1) := by decide +kernel
theorem dX4_look_1 : decode cX4_look 1 = .ok (.getfield 7, 3) := by decide +kernel
theorem dX4_look_4 : decode cX4_look 4 = .ok (.aload_n 0, 1) := by decide +kernel
theorem dX4_look_5 : decode cX4_look 5 = .ok (.getfield 44, 3) := by decide +kernel
theorem dX4_look_8 : decode cX4_look 8 = .ok (.iload_n 1, 1) := by decide +kernel
theorem dX4_look_9 : decode cX4_look 9 = .ok (.iadd, 1) := by decide +kernel
theorem dX4_look_10 : decode cX4_look 10 = .ok (.baload, 1) := by decide +kernel
theorem dX4_look_11 : decode cX4_look 11 = .ok (.sipush 255, 3) := by decide +kernel
theorem dX4_look_14 : decode cX4_look 14 = .ok (.iand, 1) := by decide +kernel
theorem dX4_look_15 : decode cX4_look 15 = .ok (.ireturn, 1) := by decide +kernel
theorem dX4_bad_0 : decode cX4_bad 0 = .ok (.aload_n 0, 1) := by decide +kernel
theorem dX4_bad_1 : decode cX4_bad 1 = .ok (.iload_n 1, 1) := by decide +kernel
theorem dX4_bad_2 : decode cX4_bad 2 = .ok (.putfield 47, 3) := by decide +kernel
theorem dX4_bad_5 : decode cX4_bad 5 = .ok (.iconst 0, 1) := by decide +kernel
theorem dX4_bad_6 : decode cX4_bad 6 = .ok (.ireturn, 1) := by decide +kernel
theorem dX4_digits_0 : decode cX4_digits 0 = .ok (.iload_n 1, 1) := by decide +kernel
theorem dX4_digits_1 : decode cX4_digits 1 = .ok (.istore_n 3, 1) := by decide +kernel
theorem dX4_digits_2 : decode cX4_digits 2 = .ok (.iload_n 3, 1) := by decide +kernel
theorem dX4_digits_3 : decode cX4_digits 3 = .ok (.iload_n 1, 1) := by decide +kernel
theorem dX4_digits_4 : decode cX4_digits 4 = .ok (.iload_n 2, 1) := by decide +kernel
theorem dX4_digits_5 : decode cX4_digits 5 = .ok (.iadd, 1) := by decide +kernel
theorem dX4_digits_6 : decode cX4_digits 6 = .ok (.if_icmp .ge 35, 3) := by decide +kernel
theorem dX4_digits_9 : decode cX4_digits 9 = .ok (.aload_n 0, 1) := by decide +kernel
theorem dX4_digits_10 : decode cX4_digits 10 = .ok (.iload_n 3, 1) := by decide +kernel
theorem dX4_digits_11 : decode cX4_digits 11 = .ok (.invokevirtual 50, 3) := by decide +kernel
theorem dX4_digits_14 : decode cX4_digits 14 = .ok (.bipush 48, 2) := by decide +kernel
theorem dX4_digits_16 : decode cX4_digits 16 = .ok (.if_icmp .lt 13, 3) := by decide +kernel
theorem dX4_digits_19 : decode cX4_digits 19 = .ok (.aload_n 0, 1) := by decide +kernel
theorem dX4_digits_20 : decode cX4_digits 20 = .ok (.iload_n 3, 1) := by decide +kernel
theorem dX4_digits_21 : decode cX4_digits 21 = .ok (.invokevirtual 50, 3) := by decide +kernel
theorem dX4_digits_24 : decode cX4_digits 24 = .ok (.bipush 57, 2) := by decide +kernel
theorem dX4_digits_26 : decode cX4_digits 26 = .ok (.if_icmp .le 9, 3) := by decide +kernel
theorem dX4_digits_29 : decode cX4_digits 29 = .ok (.aload_n 0, 1) := by decide +kernel
theorem dX4_digits_30 : decode cX4_digits 30 = .ok (.iload_n 3, 1) := by decide +kernel
theorem dX4_digits_31 : decode cX4_digits 31 = .ok (.invokevirtual 54, 3) := by decide +kernel
theorem dX4_digits_34 : decode cX4_digits 34 = .ok (.ireturn, 1) := by decide +kernel
theorem dX4_digits_35 : decode cX4_digits 35 = .ok (.iinc 3 1, 3) := by decide +kernel
theorem dX4_digits_38 : decode cX4_digits 38 = .ok (.goto (-36), 3) := by decide +kernel
theorem dX4_digits_41 : decode cX4_digits 41 = .ok (.iconst 1, 1) := by decide +kernel
theorem dX4_digits_42 : decode cX4_digits 42 = .ok (.ireturn, 1) := by decide +kernel
theorem dX4_number_0 : decode cX4_number 0 = .ok (.iconst 0, 1) := by decide +kernel
theorem dX4_number_1 : decode cX4_number 1 = .ok (.istore_n 3, 1) := by decide +kernel
theorem dX4_number_2 : decode cX4_number 2 = .ok (.iload_n 1, 1) := by decide +kernel
theorem dX4_number_3 : decode cX4_number 3 = .ok (.istore 4, 2) := by decide +kernel
theorem dX4_number_5 : decode cX4_number 5 = .ok (.iload 4, 2) := by decide +kernel
theorem dX4_number_7 : decode cX4_number 7 = .ok (.iload_n 1, 1) := by decide +kernel
theorem dX4_number_8 : decode cX4_number 8 = .ok (.iload_n 2, 1) := by decide +kernel
theorem dX4_number_9 : decode cX4_number 9 = .ok (.iadd, 1) := by decide +kernel
theorem dX4_number_10 : decode cX4_number 10 = .ok (.if_icmp .ge 24, 3) := by decide +kernel
theorem dX4_number_13 : decode cX4_number 13 = .ok (.bipush 10, 2) := by decide +kernel
theorem dX4_number_15 : decode cX4_number 15 = .ok (.iload_n 3, 1) := by decide +kernel
theorem dX4_number_16 : decode cX4_number 16 = .ok (.imul, 1) := by decide +kernel
theorem dX4_number_17 : decode cX4_number 17 = .ok (.aload_n 0, 1) := by decide +kernel
theorem dX4_number_18 : decode cX4_number 18 = .ok (.iload 4, 2) := by decide +kernel
theorem dX4_number_20 : decode cX4_number 20 = .ok (.invokevirtual 50, 3) := by decide +kernel
theorem dX4_number_23 : decode cX4_number 23 = .ok (.iadd, 1) := by decide +kernel
theorem dX4_number_24 : decode cX4_number 24 = .ok (.bipush 48, 2) := by decide +kernel
theorem dX4_number_26 : decode cX4_number 26 = .ok (.isub, 1) := by decide +kernel
theorem dX4_number_27 : decode cX4_number 27 = .ok (.istore_n 3, 1) := by decide +kernel
theorem dX4_number_28 : decode cX4_number 28 = .ok (.iinc 4 1, 3) := by decide +kernel
theorem dX4_number_31 : decode cX4_number 31 = .ok (.goto (-26), 3) := by decide +kernel
theorem dX4_number_34 : decode cX4_number 34 = .ok (.iload_n 3, 1) := by decide +kernel
theorem dX4_number_35 : decode cX4_number 35 = .ok (.ireturn, 1) := by decide +kernel
theorem dX4_must_0 : decode cX4_must 0 = .ok (.aload_n 0, 1) := by decide +kernel
theorem dX4_must_1 : decode cX4_must 1 = .ok (.iload_n 1, 1) := by decide +kernel
theorem dX4_must_2 : decode cX4_must 2 = .ok (.invokevirtual 50, 3) := by decide +kernel
theorem dX4_must_5 : decode cX4_must 5 = .ok (.iload_n 2, 1) := by decide +kernel
theorem dX4_must_6 : decode cX4_must 6 = .ok (.if_icmp .eq 11, 3) := by decide +kernel
theorem dX4_must_9 : decode cX4_must 9 = .ok (.aload_n 0, 1) := by decide +kernel
theorem dX4_must_10 : decode cX4_must 10 = .ok (.iload_n 1, 1) := by decide +kernel
theorem dX4_must_11 : decode cX4_must 11 = .ok (.invokevirtual 54, 3) := by decide +kernel
theorem dX4_must_14 : decode cX4_must 14 = .ok (.ifCond .eq 7, 3) := by decide +kernel
theorem dX4_must_17 : decode cX4_must 17 = .ok (.iconst 1, 1) := by decide +kernel
theorem dX4_must_18 : decode cX4_must 18 = .ok (.goto 4, 3) := by decide +kernel
theorem dX4_must_21 : decode cX4_must 21 = .ok (.iconst 0, 1) := by decide +kernel
theorem dX4_must_22 : decode cX4_must 22 = .ok (.ireturn, 1) := by decide +kernel
theorem dX4_isMark_0 : decode cX4_isMark 0 = .ok (.iload_n 0, 1) := by decide +kernel
theorem dX4_isMark_1 : decode cX4_isMark 1 = .ok (.bipush 29, 2) := by decide +kernel
theorem dX4_isMark_3 : decode cX4_isMark 3 = .ok (.if_icmp .lt 13, 3) := by decide +kernel
theorem dX4_isMark_6 : decode cX4_isMark 6 = .ok (.iload_n 0, 1) := by decide +kernel
theorem dX4_isMark_7 : decode cX4_isMark 7 = .ok (.bipush 31, 2) := by decide +kernel
theorem dX4_isMark_9 : decode cX4_isMark 9 = .ok (.if_icmp .gt 7, 3) := by decide +kernel
theorem dX4_isMark_12 : decode cX4_isMark 12 = .ok (.iconst 1, 1) := by decide +kernel
theorem dX4_isMark_13 : decode cX4_isMark 13 = .ok (.goto 4, 3) := by decide +kernel
theorem dX4_isMark_16 : decode cX4_isMark 16 = .ok (.iconst 0, 1) := by decide +kernel
theorem dX4_isMark_17 : decode cX4_isMark 17 = .ok (.ireturn, 1) := by decide +kernel
theorem dX4_control_0 : decode cX4_control 0 = .ok (.iload_n 1, 1) := by decide +kernel
theorem dX4_control_1 : decode cX4_control 1 = .ok (.istore_n 3, 1) := by decide +kernel
theorem dX4_control_2 : decode cX4_control 2 = .ok (.iload_n 3, 1) := by decide +kernel
theorem dX4_control_3 : decode cX4_control 3 = .ok (.iload_n 1, 1) := by decide +kernel
theorem dX4_control_4 : decode cX4_control 4 = .ok (.iload_n 2, 1) := by decide +kernel
theorem dX4_control_5 : decode cX4_control 5 = .ok (.iadd, 1) := by decide +kernel
theorem dX4_control_6 : decode cX4_control 6 = .ok (.iconst 1, 1) := by decide +kernel
theorem dX4_control_7 : decode cX4_control 7 = .ok (.isub, 1) := by decide +kernel
theorem dX4_control_8 : decode cX4_control 8 = .ok (.if_icmp .ge 26, 3) := by decide +kernel
theorem dX4_control_11 : decode cX4_control 11 = .ok (.aload_n 0, 1) := by decide +kernel
theorem dX4_control_12 : decode cX4_control 12 = .ok (.iload_n 3, 1) := by decide +kernel
theorem dX4_control_13 : decode cX4_control 13 = .ok (.invokevirtual 50, 3) := by decide +kernel
theorem dX4_control_16 : decode cX4_control 16 = .ok (.invokestatic 58, 3) := by decide +kernel
theorem dX4_control_19 : decode cX4_control 19 = .ok (.ifCond .eq 9, 3) := by decide +kernel
theorem dX4_control_22 : decode cX4_control 22 = .ok (.aload_n 0, 1) := by decide +kernel
theorem dX4_control_23 : decode cX4_control 23 = .ok (.iload_n 3, 1) := by decide +kernel
theorem dX4_control_24 : decode cX4_control 24 = .ok (.invokevirtual 54, 3) := by decide +kernel
theorem dX4_control_27 : decode cX4_control 27 = .ok (.ireturn, 1) := by decide +kernel
theorem dX4_control_28 : decode cX4_control 28 = .ok (.iinc 3 1, 3) := by decide +kernel
theorem dX4_control_31 : decode cX4_control 31 = .ok (.goto (-29), 3) := by decide +kernel
theorem dX4_control_34 : decode cX4_control 34 = .ok (.aload_n 0, 1) := by decide +kernel
theorem dX4_control_35 : decode cX4_control 35 = .ok (.iload_n 1, 1) := by decide +kernel
theorem dX4_control_36 : decode cX4_control 36 = .ok (.iload_n 2, 1) := by decide +kernel
theorem dX4_control_37 : decode cX4_control 37 = .ok (.iadd, 1) := by decide +kernel
theorem dX4_control_38 : decode cX4_control 38 = .ok (.iconst 1, 1) := by decide +kernel
theorem dX4_control_39 : decode cX4_control 39 = .ok (.isub, 1) := by decide +kernel
theorem dX4_control_40 : decode cX4_control 40 = .ok (.bipush 30, 2) := by decide +kernel
theorem dX4_control_42 : decode cX4_control 42 = .ok (.invokevirtual 61, 3) := by decide +kernel
theorem dX4_control_45 : decode cX4_control 45 = .ok (.ireturn, 1) := by decide +kernel
theorem dX4_data_0 : decode cX4_data 0 = .ok (.iload_n 1, 1) := by decide +kernel
theorem dX4_data_1 : decode cX4_data 1 = .ok (.iload_n 2, 1) := by decide +kernel
theorem dX4_data_2 : decode cX4_data 2 = .ok (.iadd, 1) := by decide +kernel
theorem dX4_data_3 : decode cX4_data 3 = .ok (.iconst 1, 1) := by decide +kernel
theorem dX4_data_4 : decode cX4_data 4 = .ok (.isub, 1) := by decide +kernel
theorem dX4_data_5 : decode cX4_data 5 = .ok (.istore_n 3, 1) := by decide +kernel
theorem dX4_data_6 : decode cX4_data 6 = .ok (.aload_n 0, 1) := by decide +kernel
theorem dX4_data_7 : decode cX4_data 7 = .ok (.iload_n 1, 1) := by decide +kernel
theorem dX4_data_8 : decode cX4_data 8 = .ok (.invokevirtual 50, 3) := by decide +kernel
theorem dX4_data_11 : decode cX4_data 11 = .ok (.invokestatic 58, 3) := by decide +kernel
theorem dX4_data_14 : decode cX4_data 14 = .ok (.ifCond .ne 16, 3) := by decide +kernel
theorem dX4_data_17 : decode cX4_data 17 = .ok (.aload_n 0, 1) := by decide +kernel
theorem dX4_data_18 : decode cX4_data 18 = .ok (.iload_n 1, 1) := by decide +kernel
theorem dX4_data_19 : decode cX4_data 19 = .ok (.iconst 1, 1) := by decide +kernel
theorem dX4_data_20 : decode cX4_data 20 = .ok (.iadd, 1) := by decide +kernel
theorem dX4_data_21 : decode cX4_data 21 = .ok (.invokevirtual 50, 3) := by decide +kernel
theorem dX4_data_24 : decode cX4_data 24 = .ok (.invokestatic 58, 3) := by decide +kernel
theorem dX4_data_27 : decode cX4_data 27 = .ok (.ifCond .eq 26, 3) := by decide +kernel
theorem dX4_data_30 : decode cX4_data 30 = .ok (.aload_n 0, 1) := by decide +kernel
theorem dX4_data_31 : decode cX4_data 31 = .ok (.aload_n 0, 1) := by decide +kernel
theorem dX4_data_32 : decode cX4_data 32 = .ok (.iload_n 1, 1) := by decide +kernel
theorem dX4_data_33 : decode cX4_data 33 = .ok (.invokevirtual 50, 3) := by decide +kernel
theorem dX4_data_36 : decode cX4_data 36 = .ok (.invokestatic 58, 3) := by decide +kernel
theorem dX4_data_39 : decode cX4_data 39 = .ok (.ifCond .eq 7, 3) := by decide +kernel
theorem dX4_data_42 : decode cX4_data 42 = .ok (.iload_n 1, 1) := by decide +kernel
theorem dX4_data_43 : decode cX4_data 43 = .ok (.goto 6, 3) := by decide +kernel
theorem dX4_data_46 : decode cX4_data 46 = .ok (.iload_n 1, 1) := by decide +kernel
theorem dX4_data_47 : decode cX4_data 47 = .ok (.iconst 1, 1) := by decide +kernel
theorem dX4_data_48 : decode cX4_data 48 = .ok (.iadd, 1) := by decide +kernel
theorem dX4_data_49 : decode cX4_data 49 = .ok (.invokevirtual 54, 3) := by decide +kernel
theorem dX4_data_52 : decode cX4_data 52 = .ok (.ireturn, 1) := by decide +kernel
theorem dX4_data_53 : decode cX4_data 53 = .ok (.iload_n 1, 1) := by decide +kernel
theorem dX4_data_54 : decode cX4_data 54 = .ok (.iconst 2, 1) := by decide +kernel
theorem dX4_data_55 : decode cX4_data 55 = .ok (.iadd, 1) := by decide +kernel
theorem dX4_data_56 : decode cX4_data 56 = .ok (.istore 4, 2) := by decide +kernel
theorem dX4_data_58 : decode cX4_data 58 = .ok (.iload 4, 2) := by decide +kernel
theorem dX4_data_60 : decode cX4_data 60 = .ok (.iload_n 3, 1) := by decide +kernel
theorem dX4_data_61 : decode cX4_data 61 = .ok (.if_icmp .ge 97, 3) := by decide +kernel
theorem dX4_data_64 : decode cX4_data 64 = .ok (.aload_n 0, 1) := by decide +kernel
theorem dX4_data_65 : decode cX4_data 65 = .ok (.iload 4, 2) := by decide +kernel
theorem dX4_data_67 : decode cX4_data 67 = .ok (.invokevirtual 50, 3) := by decide +kernel
theorem dX4_data_70 : decode cX4_data 70 = .ok (.bipush 31, 2) := by decide +kernel
theorem dX4_data_72 : decode cX4_data 72 = .ok (.if_icmp .ne 11, 3) := by decide +kernel
theorem dX4_data_75 : decode cX4_data 75 = .ok (.iload 4, 2) := by decide +kernel
theorem dX4_data_77 : decode cX4_data 77 = .ok (.iconst 1, 1) := by decide +kernel
theorem dX4_data_78 : decode cX4_data 78 = .ok (.iadd, 1) := by decide +kernel
theorem dX4_data_79 : decode cX4_data 79 = .ok (.iload_n 3, 1) := by decide +kernel
theorem dX4_data_80 : decode cX4_data 80 = .ok (.if_icmp .ne 10, 3) := by decide +kernel
theorem dX4_data_83 : decode cX4_data 83 = .ok (.aload_n 0, 1) := by decide +kernel
theorem dX4_data_84 : decode cX4_data 84 = .ok (.iload 4, 2) := by decide +kernel
theorem dX4_data_86 : decode cX4_data 86 = .ok (.invokevirtual 54, 3) := by decide +kernel
theorem dX4_data_89 : decode cX4_data 89 = .ok (.ireturn, 1) := by decide +kernel
theorem dX4_data_90 : decode cX4_data 90 = .ok (.aload_n 0, 1) := by decide +kernel
theorem dX4_data_91 : decode cX4_data 91 = .ok (.iload 4, 2) := by decide +kernel
theorem dX4_data_93 : decode cX4_data 93 = .ok (.iconst 1, 1) := by decide +kernel
theorem dX4_data_94 : decode cX4_data 94 = .ok (.iadd, 1) := by decide +kernel
theorem dX4_data_95 : decode cX4_data 95 = .ok (.invokevirtual 50, 3) := by decide +kernel
theorem dX4_data_98 : decode cX4_data 98 = .ok (.invokestatic 58, 3) := by decide +kernel
theorem dX4_data_101 : decode cX4_data 101 = .ok (.ifCond .eq 12, 3) := by decide +kernel
theorem dX4_data_104 : decode cX4_data 104 = .ok (.aload_n 0, 1) := by decide +kernel
theorem dX4_data_105 : decode cX4_data 105 = .ok (.iload 4, 2) := by decide +kernel
theorem dX4_data_107 : decode cX4_data 107 = .ok (.iconst 1, 1) := by decide +kernel
theorem dX4_data_108 : decode cX4_data 108 = .ok (.iadd, 1) := by decide +kernel
theorem dX4_data_109 : decode cX4_data 109 = .ok (.invokevirtual 54, 3) := by decide +kernel
theorem dX4_data_112 : decode cX4_data 112 = .ok (.ireturn, 1) := by decide +kernel
theorem dX4_data_113 : decode cX4_data 113 = .ok (.iinc 4 2, 3) := by decide +kernel
theorem dX4_data_116 : decode cX4_data 116 = .ok (.iload 4, 2) := by decide +kernel
theorem dX4_data_118 : decode cX4_data 118 = .ok (.iload_n 3, 1) := by decide +kernel
theorem dX4_data_119 : decode cX4_data 119 = .ok (.if_icmp .ge (-61), 3) := by decide +kernel
theorem dX4_data_122 : decode cX4_data 122 = .ok (.aload_n 0, 1) := by decide +kernel
theorem dX4_data_123 : decode cX4_data 123 = .ok (.iload 4, 2) := by decide +kernel
theorem dX4_data_125 : decode cX4_data 125 = .ok (.invokevirtual 50, 3) := by decide +kernel
theorem dX4_data_128 : decode cX4_data 128 = .ok (.bipush 31, 2) := by decide +kernel
theorem dX4_data_130 : decode cX4_data 130 = .ok (.if_icmp .eq (-72), 3) := by decide +kernel
theorem dX4_data_133 : decode cX4_data 133 = .ok (.aload_n 0, 1) := by decide +kernel
theorem dX4_data_134 : decode cX4_data 134 = .ok (.iload 4, 2) := by decide +kernel
theorem dX4_data_136 : decode cX4_data 136 = .ok (.invokevirtual 50, 3) := by decide +kernel
theorem dX4_data_139 : decode cX4_data 139 = .ok (.invokestatic 58, 3) := by decide +kernel
theorem dX4_data_142 : decode cX4_data 142 = .ok (.ifCond .eq 10, 3) := by decide +kernel
theorem dX4_data_145 : decode cX4_data 145 = .ok (.aload_n 0, 1) := by decide +kernel
theorem dX4_data_146 : decode cX4_data 146 = .ok (.iload 4, 2) := by decide +kernel
theorem dX4_data_148 : decode cX4_data 148 = .ok (.invokevirtual 54, 3) := by decide +kernel
theorem dX4_data_151 : decode cX4_data 151 = .ok (.ireturn, 1) := by decide +kernel
theorem dX4_data_152 : decode cX4_data 152 = .ok (.iinc 4 1, 3) := by decide +kernel
theorem dX4_data_155 : decode cX4_data 155 = .ok (.goto (-39), 3) := by decide +kernel
theorem dX4_data_158 : decode cX4_data 158 = .ok (.aload_n 0, 1) := by decide +kernel
theorem dX4_data_159 : decode cX4_data 159 = .ok (.iload_n 3, 1) := by decide +kernel
theorem dX4_data_160 : decode cX4_data 160 = .ok (.bipush 30, 2) := by decide +kernel
theorem dX4_data_162 : decode cX4_data 162 = .ok (.invokevirtual 61, 3) := by decide +kernel
theorem dX4_data_165 : decode cX4_data 165 = .ok (.ireturn, 1) := by decide +kernel
theorem dX4_row_0 : decode cX4_row 0 = .ok (.bipush 24, 2) := by decide +kernel
theorem dX4_row_2 : decode cX4_row 2 = .ok (.bipush 12, 2) := by decide +kernel
theorem dX4_row_4 : decode cX4_row 4 = .ok (.iload_n 1, 1) := by decide +kernel
theorem dX4_row_5 : decode cX4_row 5 = .ok (.imul, 1) := by decide +kernel
theorem dX4_row_6 : decode cX4_row 6 = .ok (.iadd, 1) := by decide +kernel
theorem dX4_row_7 : decode cX4_row 7 = .ok (.istore 4, 2) := by decide +kernel
theorem dX4_row_9 : decode cX4_row 9 = .ok (.aload_n 0, 1) := by decide +kernel
theorem dX4_row_10 : decode cX4_row 10 = .ok (.iload 4, 2) := by decide +kernel
theorem dX4_row_12 : decode cX4_row 12 = .ok (.bipush 12, 2) := by decide +kernel
theorem dX4_row_14 : decode cX4_row 14 = .ok (.invokevirtual 65, 3) := by decide +kernel
theorem dX4_row_17 : decode cX4_row 17 = .ok (.ifCond .ne 5, 3) := by decide +kernel
theorem dX4_row_20 : decode cX4_row 20 = .ok (.iconst 0, 1) := by decide +kernel
theorem dX4_row_21 : decode cX4_row 21 = .ok (.ireturn, 1) := by decide +kernel
theorem dX4_row_22 : decode cX4_row 22 = .ok (.aload_n 0, 1) := by decide +kernel
theorem dX4_row_23 : decode cX4_row 23 = .ok (.iload 4, 2) := by decide +kernel
theorem dX4_row_25 : decode cX4_row 25 = .ok (.iconst 3, 1) := by decide +kernel
theorem dX4_row_26 : decode cX4_row 26 = .ok (.invokevirtual 68, 3) := by decide +kernel
theorem dX4_row_29 : decode cX4_row 29 = .ok (.istore 5, 2) := by decide +kernel
theorem dX4_row_31 : decode cX4_row 31 = .ok (.aload_n 0, 1) := by decide +kernel
theorem dX4_row_32 : decode cX4_row 32 = .ok (.iload 4, 2) := by decide +kernel
theorem dX4_row_34 : decode cX4_row 34 = .ok (.iconst 3, 1) := by decide +kernel
theorem dX4_row_35 : decode cX4_row 35 = .ok (.iadd, 1) := by decide +kernel
theorem dX4_row_36 : decode cX4_row 36 = .ok (.iconst 4, 1) := by decide +kernel
theorem dX4_row_37 : decode cX4_row 37 = .ok (.invokevirtual 68, 3) := by decide +kernel
theorem dX4_row_40 : decode cX4_row 40 = .ok (.istore 6, 2) := by decide +kernel
theorem dX4_row_42 : decode cX4_row 42 = .ok (.aload_n 0, 1) := by decide +kernel
theorem dX4_row_43 : decode cX4_row 43 = .ok (.iload 4, 2) := by decide +kernel
theorem dX4_row_45 : decode cX4_row 45 = .ok (.bipush 7, 2) := by decide +kernel
theorem dX4_row_47 : decode cX4_row 47 = .ok (.iadd, 1) := by decide +kernel
theorem dX4_row_48 : decode cX4_row 48 = .ok (.iconst 5, 1) := by decide +kernel
theorem dX4_row_49 : decode cX4_row 49 = .ok (.invokevirtual 68, 3) := by decide +kernel
theorem dX4_row_52 : decode cX4_row 52 = .ok (.istore 7, 2) := by decide +kernel
theorem dX4_row_54 : decode cX4_row 54 = .ok (.iload 6, 2) := by decide +kernel
theorem dX4_row_56 : decode cX4_row 56 = .ok (.ifCond .eq 29, 3) := by decide +kernel
theorem dX4_row_59 : decode cX4_row 59 = .ok (.iload_n 2, 1) := by decide +kernel
theorem dX4_row_60 : decode cX4_row 60 = .ok (.iload 7, 2) := by decide +kernel
theorem dX4_row_62 : decode cX4_row 62 = .ok (.iadd, 1) := by decide +kernel
theorem dX4_row_63 : decode cX4_row 63 = .ok (.iload 6, 2) := by decide +kernel
theorem dX4_row_65 : decode cX4_row 65 = .ok (.iadd, 1) := by decide +kernel
theorem dX4_row_66 : decode cX4_row 66 = .ok (.iload_n 3, 1) := by decide +kernel
theorem dX4_row_67 : decode cX4_row 67 = .ok (.iconst 1, 1) := by decide +kernel
theorem dX4_row_68 : decode cX4_row 68 = .ok (.isub, 1) := by decide +kernel
theorem dX4_row_69 : decode cX4_row 69 = .ok (.if_icmp .gt 16, 3) := by decide +kernel
theorem dX4_row_72 : decode cX4_row 72 = .ok (.iload 5, 2) := by decide +kernel
theorem dX4_row_74 : decode cX4_row 74 = .ok (.bipush 9, 2) := by decide +kernel
theorem dX4_row_76 : decode cX4_row 76 = .ok (.if_icmp .le 18, 3) := by decide +kernel
theorem dX4_row_79 : decode cX4_row 79 = .ok (.iload 6, 2) := by decide +kernel
theorem dX4_row_81 : decode cX4_row 81 = .ok (.iconst 3, 1) := by decide +kernel
theorem dX4_row_82 : decode cX4_row 82 = .ok (.if_icmp .ge 12, 3) := by decide +kernel
theorem dX4_row_85 : decode cX4_row 85 = .ok (.aload_n 0, 1) := by decide +kernel
theorem dX4_row_86 : decode cX4_row 86 = .ok (.iload 4, 2) := by decide +kernel
theorem dX4_row_88 : decode cX4_row 88 = .ok (.iconst 3, 1) := by decide +kernel
theorem dX4_row_89 : decode cX4_row 89 = .ok (.iadd, 1) := by decide +kernel
theorem dX4_row_90 : decode cX4_row 90 = .ok (.invokevirtual 54, 3) := by decide +kernel
theorem dX4_row_93 : decode cX4_row 93 = .ok (.ireturn, 1) := by decide +kernel
theorem dX4_row_94 : decode cX4_row 94 = .ok (.aload_n 0, 1) := by decide +kernel
theorem dX4_row_95 : decode cX4_row 95 = .ok (.getfield 30, 3) := by decide +kernel
theorem dX4_row_98 : decode cX4_row 98 = .ok (.iconst 3, 1) := by decide +kernel
theorem dX4_row_99 : decode cX4_row 99 = .ok (.iload_n 1, 1) := by decide +kernel
theorem dX4_row_100 : decode cX4_row 100 = .ok (.imul, 1) := by decide +kernel
theorem dX4_row_101 : decode cX4_row 101 = .ok (.iload 5, 2) := by decide +kernel
theorem dX4_row_103 : decode cX4_row 103 = .ok (.iastore, 1) := by decide +kernel
theorem dX4_row_104 : decode cX4_row 104 = .ok (.aload_n 0, 1) := by decide +kernel
theorem dX4_row_105 : decode cX4_row 105 = .ok (.getfield 30, 3) := by decide +kernel
theorem dX4_row_108 : decode cX4_row 108 = .ok (.iconst 3, 1) := by decide +kernel
theorem dX4_row_109 : decode cX4_row 109 = .ok (.iload_n 1, 1) := by decide +kernel
theorem dX4_row_110 : decode cX4_row 110 = .ok (.imul, 1) := by decide +kernel
theorem dX4_row_111 : decode cX4_row 111 = .ok (.iconst 1, 1) := by decide +kernel
theorem dX4_row_112 : decode cX4_row 112 = .ok (.iadd, 1) := by decide +kernel
theorem dX4_row_113 : decode cX4_row 113 = .ok (.iload 6, 2) := by decide +kernel
theorem dX4_row_115 : decode cX4_row 115 = .ok (.iastore, 1) := by decide +kernel
theorem dX4_row_116 : decode cX4_row 116 = .ok (.aload_n 0, 1) := by decide +kernel
theorem dX4_row_117 : decode cX4_row 117 = .ok (.getfield 30, 3) := by decide +kernel
theorem dX4_row_120 : decode cX4_row 120 = .ok (.iconst 3, 1) := by decide +kernel
theorem dX4_row_121 : decode cX4_row 121 = .ok (.iload_n 1, 1) := by decide +kernel
theorem dX4_row_122 : decode cX4_row 122 = .ok (.imul, 1) := by decide +kernel
theorem dX4_row_123 : decode cX4_row 123 = .ok (.iconst 2, 1) := by decide +kernel
theorem dX4_row_124 : decode cX4_row 124 = .ok (.iadd, 1) := by decide +kernel
theorem dX4_row_125 : decode cX4_row 125 = .ok (.iload 7, 2) := by decide +kernel
theorem dX4_row_127 : decode cX4_row 127 = .ok (.iastore, 1) := by decide +kernel
theorem dX4_row_128 : decode cX4_row 128 = .ok (.iload 5, 2) := by decide +kernel
theorem dX4_row_130 : decode cX4_row 130 = .ok (.bipush 10, 2) := by decide +kernel
theorem dX4_row_132 : decode cX4_row 132 = .ok (.if_icmp .ge 16, 3) := by decide +kernel
theorem dX4_row_135 : decode cX4_row 135 = .ok (.aload_n 0, 1) := by decide +kernel
theorem dX4_row_136 : decode cX4_row 136 = .ok (.iload_n 2, 1) := by decide +kernel
theorem dX4_row_137 : decode cX4_row 137 = .ok (.iload 7, 2) := by decide +kernel
theorem dX4_row_139 : decode cX4_row 139 = .ok (.iadd, 1) := by decide +kernel
theorem dX4_row_140 : decode cX4_row 140 = .ok (.iload 6, 2) := by decide +kernel
theorem dX4_row_142 : decode cX4_row 142 = .ok (.invokevirtual 72, 3) := by decide +kernel
theorem dX4_row_145 : decode cX4_row 145 = .ok (.goto 13, 3) := by decide +kernel
theorem dX4_row_148 : decode cX4_row 148 = .ok (.aload_n 0, 1) := by decide +kernel
theorem dX4_row_149 : decode cX4_row 149 = .ok (.iload_n 2, 1) := by decide +kernel
theorem dX4_row_150 : decode cX4_row 150 = .ok (.iload 7, 2) := by decide +kernel
theorem dX4_row_152 : decode cX4_row 152 = .ok (.iadd, 1) := by decide +kernel
theorem dX4_row_153 : decode cX4_row 153 = .ok (.iload 6, 2) := by decide +kernel
theorem dX4_row_155 : decode cX4_row 155 = .ok (.invokevirtual 75, 3) := by decide +kernel
theorem dX4_row_158 : decode cX4_row 158 = .ok (.ireturn, 1) := by decide +kernel
theorem dX4_heads_0 : decode cX4_heads 0 = .ok (.iload_n 2, 1) := by decide +kernel
theorem dX4_heads_1 : decode cX4_heads 1 = .ok (.bipush 25, 2) := by decide +kernel
theorem dX4_heads_3 : decode cX4_heads 3 = .ok (.if_icmp .lt 20, 3) := by decide +kernel
theorem dX4_heads_6 : decode cX4_heads 6 = .ok (.iload_n 2, 1) := by decide +kernel
theorem dX4_heads_7 : decode cX4_heads 7 = .ok (.iload_n 1, 1) := by decide +kernel
theorem dX4_heads_8 : decode cX4_heads 8 = .ok (.iconst 1, 1) := by decide +kernel
theorem dX4_heads_9 : decode cX4_heads 9 = .ok (.isub, 1) := by decide +kernel
theorem dX4_heads_10 : decode cX4_heads 10 = .ok (.if_icmp .gt 13, 3) := by decide +kernel
theorem dX4_heads_13 : decode cX4_heads 13 = .ok (.iload_n 2, 1) := by decide +kernel
theorem dX4_heads_14 : decode cX4_heads 14 = .ok (.bipush 25, 2) := by decide +kernel
theorem dX4_heads_16 : decode cX4_heads 16 = .ok (.isub, 1) := by decide +kernel
theorem dX4_heads_17 : decode cX4_heads 17 = .ok (.bipush 12, 2) := by decide +kernel
theorem dX4_heads_19 : decode cX4_heads 19 = .ok (.irem, 1) := by decide +kernel
theorem dX4_heads_20 : decode cX4_heads 20 = .ok (.ifCond .eq 10, 3) := by decide +kernel
theorem dX4_heads_23 : decode cX4_heads 23 = .ok (.aload_n 0, 1) := by decide +kernel
theorem dX4_heads_24 : decode cX4_heads 24 = .ok (.bipush 12, 2) := by decide +kernel
theorem dX4_heads_26 : decode cX4_heads 26 = .ok (.invokevirtual 54, 3) := by decide +kernel
theorem dX4_heads_29 : decode cX4_heads 29 = .ok (.ireturn, 1) := by decide +kernel
theorem dX4_heads_30 : decode cX4_heads 30 = .ok (.aload_n 0, 1) := by decide +kernel
theorem dX4_heads_31 : decode cX4_heads 31 = .ok (.iload_n 2, 1) := by decide +kernel
theorem dX4_heads_32 : decode cX4_heads 32 = .ok (.iconst 1, 1) := by decide +kernel
theorem dX4_heads_33 : decode cX4_heads 33 = .ok (.isub, 1) := by decide +kernel
theorem dX4_heads_34 : decode cX4_heads 34 = .ok (.bipush 30, 2) := by decide +kernel
theorem dX4_heads_36 : decode cX4_heads 36 = .ok (.invokevirtual 61, 3) := by decide +kernel
theorem dX4_heads_39 : decode cX4_heads 39 = .ok (.ifCond .eq 40, 3) := by decide +kernel
theorem dX4_heads_42 : decode cX4_heads 42 = .ok (.aload_n 0, 1) := by decide +kernel
theorem dX4_heads_43 : decode cX4_heads 43 = .ok (.iload_n 1, 1) := by decide +kernel
theorem dX4_heads_44 : decode cX4_heads 44 = .ok (.iconst 1, 1) := by decide +kernel
theorem dX4_heads_45 : decode cX4_heads 45 = .ok (.isub, 1) := by decide +kernel
theorem dX4_heads_46 : decode cX4_heads 46 = .ok (.bipush 29, 2) := by decide +kernel
theorem dX4_heads_48 : decode cX4_heads 48 = .ok (.invokevirtual 61, 3) := by decide +kernel
theorem dX4_heads_51 : decode cX4_heads 51 = .ok (.ifCond .eq 28, 3) := by decide +kernel
theorem dX4_heads_54 : decode cX4_heads 54 = .ok (.iload_n 2, 1) := by decide +kernel
theorem dX4_heads_55 : decode cX4_heads 55 = .ok (.bipush 25, 2) := by decide +kernel
theorem dX4_heads_57 : decode cX4_heads 57 = .ok (.isub, 1) := by decide +kernel
theorem dX4_heads_58 : decode cX4_heads 58 = .ok (.bipush 12, 2) := by decide +kernel
theorem dX4_heads_60 : decode cX4_heads 60 = .ok (.idiv, 1) := by decide +kernel
theorem dX4_heads_61 : decode cX4_heads 61 = .ok (.bipush 60, 2) := by decide +kernel
theorem dX4_heads_63 : decode cX4_heads 63 = .ok (.if_icmp .le 12, 3) := by decide +kernel
theorem dX4_heads_66 : decode cX4_heads 66 = .ok (.aload_n 0, 1) := by decide +kernel
theorem dX4_heads_67 : decode cX4_heads 67 = .ok (.bipush 24, 2) := by decide +kernel
theorem dX4_heads_69 : decode cX4_heads 69 = .ok (.invokevirtual 54, 3) := by decide +kernel
theorem dX4_heads_72 : decode cX4_heads 72 = .ok (.ifCond .eq 7, 3) := by decide +kernel
theorem dX4_heads_75 : decode cX4_heads 75 = .ok (.iconst 1, 1) := by decide +kernel
theorem dX4_heads_76 : decode cX4_heads 76 = .ok (.goto 4, 3) := by decide +kernel
theorem dX4_heads_79 : decode cX4_heads 79 = .ok (.iconst 0, 1) := by decide +kernel
theorem dX4_heads_80 : decode cX4_heads 80 = .ok (.ireturn, 1) := by decide +kernel
theorem dX4_reads_0 : decode cX4_reads 0 = .ok (.aload_n 0, 1) := by decide +kernel
theorem dX4_reads_1 : decode cX4_reads 1 = .ok (.bipush 10, 2) := by decide +kernel
theorem dX4_reads_3 : decode cX4_reads 3 = .ok (.bipush 50, 2) := by decide +kernel
theorem dX4_reads_5 : decode cX4_reads 5 = .ok (.invokevirtual 61, 3) := by decide +kernel
theorem dX4_reads_8 : decode cX4_reads 8 = .ok (.ifCond .eq 46, 3) := by decide +kernel
theorem dX4_reads_11 : decode cX4_reads 11 = .ok (.aload_n 0, 1) := by decide +kernel
theorem dX4_reads_12 : decode cX4_reads 12 = .ok (.bipush 11, 2) := by decide +kernel
theorem dX4_reads_14 : decode cX4_reads 14 = .ok (.bipush 50, 2) := by decide +kernel
theorem dX4_reads_16 : decode cX4_reads 16 = .ok (.invokevirtual 61, 3) := by decide +kernel
theorem dX4_reads_19 : decode cX4_reads 19 = .ok (.ifCond .eq 35, 3) := by decide +kernel
theorem dX4_reads_22 : decode cX4_reads 22 = .ok (.aload_n 0, 1) := by decide +kernel
theorem dX4_reads_23 : decode cX4_reads 23 = .ok (.bipush 20, 2) := by decide +kernel
theorem dX4_reads_25 : decode cX4_reads 25 = .ok (.bipush 52, 2) := by decide +kernel
theorem dX4_reads_27 : decode cX4_reads 27 = .ok (.invokevirtual 61, 3) := by decide +kernel
theorem dX4_reads_30 : decode cX4_reads 30 = .ok (.ifCond .eq 24, 3) := by decide +kernel
theorem dX4_reads_33 : decode cX4_reads 33 = .ok (.aload_n 0, 1) := by decide +kernel
theorem dX4_reads_34 : decode cX4_reads 34 = .ok (.bipush 21, 2) := by decide +kernel
theorem dX4_reads_36 : decode cX4_reads 36 = .ok (.bipush 53, 2) := by decide +kernel
theorem dX4_reads_38 : decode cX4_reads 38 = .ok (.invokevirtual 61, 3) := by decide +kernel
theorem dX4_reads_41 : decode cX4_reads 41 = .ok (.ifCond .eq 13, 3) := by decide +kernel
theorem dX4_reads_44 : decode cX4_reads 44 = .ok (.aload_n 0, 1) := by decide +kernel
theorem dX4_reads_45 : decode cX4_reads 45 = .ok (.bipush 12, 2) := by decide +kernel
theorem dX4_reads_47 : decode cX4_reads 47 = .ok (.iconst 5, 1) := by decide +kernel
theorem dX4_reads_48 : decode cX4_reads 48 = .ok (.invokevirtual 65, 3) := by decide +kernel
theorem dX4_reads_51 : decode cX4_reads 51 = .ok (.ifCond .ne 5, 3) := by decide +kernel
theorem dX4_reads_54 : decode cX4_reads 54 = .ok (.iconst 0, 1) := by decide +kernel
theorem dX4_reads_55 : decode cX4_reads 55 = .ok (.ireturn, 1) := by decide +kernel
theorem dX4_reads_56 : decode cX4_reads 56 = .ok (.aload_n 0, 1) := by decide +kernel
theorem dX4_reads_57 : decode cX4_reads 57 = .ok (.bipush 12, 2) := by decide +kernel
theorem dX4_reads_59 : decode cX4_reads 59 = .ok (.iconst 5, 1) := by decide +kernel
theorem dX4_reads_60 : decode cX4_reads 60 = .ok (.invokevirtual 68, 3) := by decide +kernel
theorem dX4_reads_63 : decode cX4_reads 63 = .ok (.istore_n 2, 1) := by decide +kernel
theorem dX4_reads_64 : decode cX4_reads 64 = .ok (.aload_n 0, 1) := by decide +kernel
theorem dX4_reads_65 : decode cX4_reads 65 = .ok (.iload_n 1, 1) := by decide +kernel
theorem dX4_reads_66 : decode cX4_reads 66 = .ok (.iload_n 2, 1) := by decide +kernel
theorem dX4_reads_67 : decode cX4_reads 67 = .ok (.invokevirtual 78, 3) := by decide +kernel
theorem dX4_reads_70 : decode cX4_reads 70 = .ok (.ifCond .ne 5, 3) := by decide +kernel
theorem dX4_reads_73 : decode cX4_reads 73 = .ok (.iconst 0, 1) := by decide +kernel
theorem dX4_reads_74 : decode cX4_reads 74 = .ok (.ireturn, 1) := by decide +kernel
theorem dX4_reads_75 : decode cX4_reads 75 = .ok (.iconst 0, 1) := by decide +kernel
theorem dX4_reads_76 : decode cX4_reads 76 = .ok (.istore_n 3, 1) := by decide +kernel
theorem dX4_reads_77 : decode cX4_reads 77 = .ok (.iload_n 3, 1) := by decide +kernel
theorem dX4_reads_78 : decode cX4_reads 78 = .ok (.iload_n 2, 1) := by decide +kernel
theorem dX4_reads_79 : decode cX4_reads 79 = .ok (.bipush 25, 2) := by decide +kernel
theorem dX4_reads_81 : decode cX4_reads 81 = .ok (.isub, 1) := by decide +kernel
theorem dX4_reads_82 : decode cX4_reads 82 = .ok (.bipush 12, 2) := by decide +kernel
theorem dX4_reads_84 : decode cX4_reads 84 = .ok (.idiv, 1) := by decide +kernel
theorem dX4_reads_85 : decode cX4_reads 85 = .ok (.if_icmp .ge 21, 3) := by decide +kernel
theorem dX4_reads_88 : decode cX4_reads 88 = .ok (.aload_n 0, 1) := by decide +kernel
theorem dX4_reads_89 : decode cX4_reads 89 = .ok (.iload_n 3, 1) := by decide +kernel
theorem dX4_reads_90 : decode cX4_reads 90 = .ok (.iload_n 2, 1) := by decide +kernel
theorem dX4_reads_91 : decode cX4_reads 91 = .ok (.iload_n 1, 1) := by decide +kernel
theorem dX4_reads_92 : decode cX4_reads 92 = .ok (.invokevirtual 81, 3) := by decide +kernel
theorem dX4_reads_95 : decode cX4_reads 95 = .ok (.ifCond .ne 5, 3) := by decide +kernel
theorem dX4_reads_98 : decode cX4_reads 98 = .ok (.iconst 0, 1) := by decide +kernel
theorem dX4_reads_99 : decode cX4_reads 99 = .ok (.ireturn, 1) := by decide +kernel
theorem dX4_reads_100 : decode cX4_reads 100 = .ok (.iinc 3 1, 3) := by decide +kernel
theorem dX4_reads_103 : decode cX4_reads 103 = .ok (.goto (-26), 3) := by decide +kernel
theorem dX4_reads_106 : decode cX4_reads 106 = .ok (.iconst 1, 1) := by decide +kernel
theorem dX4_reads_107 : decode cX4_reads 107 = .ok (.ireturn, 1) := by decide +kernel
theorem dX4_keep_0 : decode cX4_keep 0 = .ok (.aload_n 0, 1) := by decide +kernel
theorem dX4_keep_1 : decode cX4_keep 1 = .ok (.bipush 12, 2) := by decide +kernel
theorem dX4_keep_3 : decode cX4_keep 3 = .ok (.iconst 5, 1) := by decide +kernel
theorem dX4_keep_4 : decode cX4_keep 4 = .ok (.invokevirtual 68, 3) := by decide +kernel
theorem dX4_keep_7 : decode cX4_keep 7 = .ok (.istore_n 1, 1) := by decide +kernel
theorem dX4_keep_8 : decode cX4_keep 8 = .ok (.aload_n 0, 1) := by decide +kernel
theorem dX4_keep_9 : decode cX4_keep 9 = .ok (.iload_n 1, 1) := by decide +kernel
theorem dX4_keep_10 : decode cX4_keep 10 = .ok (.bipush 25, 2) := by decide +kernel
theorem dX4_keep_12 : decode cX4_keep 12 = .ok (.isub, 1) := by decide +kernel
theorem dX4_keep_13 : decode cX4_keep 13 = .ok (.bipush 12, 2) := by decide +kernel
theorem dX4_keep_15 : decode cX4_keep 15 = .ok (.idiv, 1) := by decide +kernel
theorem dX4_keep_16 : decode cX4_keep 16 = .ok (.putfield 85, 3) := by decide +kernel
theorem dX4_keep_19 : decode cX4_keep 19 = .ok (.iconst 0, 1) := by decide +kernel
theorem dX4_keep_20 : decode cX4_keep 20 = .ok (.istore_n 2, 1) := by decide +kernel
theorem dX4_keep_21 : decode cX4_keep 21 = .ok (.iload_n 2, 1) := by decide +kernel
theorem dX4_keep_22 : decode cX4_keep 22 = .ok (.bipush 24, 2) := by decide +kernel
theorem dX4_keep_24 : decode cX4_keep 24 = .ok (.if_icmp .ge 26, 3) := by decide +kernel
theorem dX4_keep_27 : decode cX4_keep 27 = .ok (.aload_n 0, 1) := by decide +kernel
theorem dX4_keep_28 : decode cX4_keep 28 = .ok (.getfield 13, 3) := by decide +kernel
theorem dX4_keep_31 : decode cX4_keep 31 = .ok (.iload_n 2, 1) := by decide +kernel
theorem dX4_keep_32 : decode cX4_keep 32 = .ok (.aload_n 0, 1) := by decide +kernel
theorem dX4_keep_33 : decode cX4_keep 33 = .ok (.getfield 7, 3) := by decide +kernel
theorem dX4_keep_36 : decode cX4_keep 36 = .ok (.aload_n 0, 1) := by decide +kernel
theorem dX4_keep_37 : decode cX4_keep 37 = .ok (.getfield 44, 3) := by decide +kernel
theorem dX4_keep_40 : decode cX4_keep 40 = .ok (.iload_n 2, 1) := by decide +kernel
theorem dX4_keep_41 : decode cX4_keep 41 = .ok (.iadd, 1) := by decide +kernel
theorem dX4_keep_42 : decode cX4_keep 42 = .ok (.baload, 1) := by decide +kernel
theorem dX4_keep_43 : decode cX4_keep 43 = .ok (.bastore, 1) := by decide +kernel
theorem dX4_keep_44 : decode cX4_keep 44 = .ok (.iinc 2 1, 3) := by decide +kernel
theorem dX4_keep_47 : decode cX4_keep 47 = .ok (.goto (-26), 3) := by decide +kernel
theorem dX4_keep_50 : decode cX4_keep 50 = .ok (.aload_n 0, 1) := by decide +kernel
theorem dX4_keep_51 : decode cX4_keep 51 = .ok (.aload_n 0, 1) := by decide +kernel
theorem dX4_keep_52 : decode cX4_keep 52 = .ok (.getfield 85, 3) := by decide +kernel
theorem dX4_keep_55 : decode cX4_keep 55 = .ok (.putfield 88, 3) := by decide +kernel
theorem dX4_keep_58 : decode cX4_keep 58 = .ok (.iconst 0, 1) := by decide +kernel
theorem dX4_keep_59 : decode cX4_keep 59 = .ok (.istore_n 2, 1) := by decide +kernel
theorem dX4_keep_60 : decode cX4_keep 60 = .ok (.iload_n 2, 1) := by decide +kernel
theorem dX4_keep_61 : decode cX4_keep 61 = .ok (.aload_n 0, 1) := by decide +kernel
theorem dX4_keep_62 : decode cX4_keep 62 = .ok (.getfield 85, 3) := by decide +kernel
theorem dX4_keep_65 : decode cX4_keep 65 = .ok (.if_icmp .ge 128, 3) := by decide +kernel
theorem dX4_keep_68 : decode cX4_keep 68 = .ok (.iconst 0, 1) := by decide +kernel
theorem dX4_keep_69 : decode cX4_keep 69 = .ok (.istore_n 3, 1) := by decide +kernel
theorem dX4_keep_70 : decode cX4_keep 70 = .ok (.iload_n 3, 1) := by decide +kernel
theorem dX4_keep_71 : decode cX4_keep 71 = .ok (.iconst 3, 1) := by decide +kernel
theorem dX4_keep_72 : decode cX4_keep 72 = .ok (.if_icmp .ge 29, 3) := by decide +kernel
theorem dX4_keep_75 : decode cX4_keep 75 = .ok (.aload_n 0, 1) := by decide +kernel
theorem dX4_keep_76 : decode cX4_keep 76 = .ok (.getfield 27, 3) := by decide +kernel
theorem dX4_keep_79 : decode cX4_keep 79 = .ok (.iconst 3, 1) := by decide +kernel
theorem dX4_keep_80 : decode cX4_keep 80 = .ok (.iload_n 2, 1) := by decide +kernel
theorem dX4_keep_81 : decode cX4_keep 81 = .ok (.imul, 1) := by decide +kernel
theorem dX4_keep_82 : decode cX4_keep 82 = .ok (.iload_n 3, 1) := by decide +kernel
theorem dX4_keep_83 : decode cX4_keep 83 = .ok (.iadd, 1) := by decide +kernel
theorem dX4_keep_84 : decode cX4_keep 84 = .ok (.aload_n 0, 1) := by decide +kernel
theorem dX4_keep_85 : decode cX4_keep 85 = .ok (.getfield 30, 3) := by decide +kernel
theorem dX4_keep_88 : decode cX4_keep 88 = .ok (.iconst 3, 1) := by decide +kernel
theorem dX4_keep_89 : decode cX4_keep 89 = .ok (.iload_n 2, 1) := by decide +kernel
theorem dX4_keep_90 : decode cX4_keep 90 = .ok (.imul, 1) := by decide +kernel
theorem dX4_keep_91 : decode cX4_keep 91 = .ok (.iload_n 3, 1) := by decide +kernel
theorem dX4_keep_92 : decode cX4_keep 92 = .ok (.iadd, 1) := by decide +kernel
theorem dX4_keep_93 : decode cX4_keep 93 = .ok (.iaload, 1) := by decide +kernel
theorem dX4_keep_94 : decode cX4_keep 94 = .ok (.iastore, 1) := by decide +kernel
theorem dX4_keep_95 : decode cX4_keep 95 = .ok (.iinc 3 1, 3) := by decide +kernel
theorem dX4_keep_98 : decode cX4_keep 98 = .ok (.goto (-28), 3) := by decide +kernel
theorem dX4_keep_101 : decode cX4_keep 101 = .ok (.aload_n 0, 1) := by decide +kernel
theorem dX4_keep_102 : decode cX4_keep 102 = .ok (.getfield 16, 3) := by decide +kernel
theorem dX4_keep_105 : decode cX4_keep 105 = .ok (.iload_n 2, 1) := by decide +kernel
theorem dX4_keep_106 : decode cX4_keep 106 = .ok (.aload_n 0, 1) := by decide +kernel
theorem dX4_keep_107 : decode cX4_keep 107 = .ok (.getfield 27, 3) := by decide +kernel
theorem dX4_keep_110 : decode cX4_keep 110 = .ok (.iconst 3, 1) := by decide +kernel
theorem dX4_keep_111 : decode cX4_keep 111 = .ok (.iload_n 2, 1) := by decide +kernel
theorem dX4_keep_112 : decode cX4_keep 112 = .ok (.imul, 1) := by decide +kernel
theorem dX4_keep_113 : decode cX4_keep 113 = .ok (.iaload, 1) := by decide +kernel
theorem dX4_keep_114 : decode cX4_keep 114 = .ok (.iastore, 1) := by decide +kernel
theorem dX4_keep_115 : decode cX4_keep 115 = .ok (.aload_n 0, 1) := by decide +kernel
theorem dX4_keep_116 : decode cX4_keep 116 = .ok (.getfield 24, 3) := by decide +kernel
theorem dX4_keep_119 : decode cX4_keep 119 = .ok (.iload_n 2, 1) := by decide +kernel
theorem dX4_keep_120 : decode cX4_keep 120 = .ok (.aload_n 0, 1) := by decide +kernel
theorem dX4_keep_121 : decode cX4_keep 121 = .ok (.getfield 27, 3) := by decide +kernel
theorem dX4_keep_124 : decode cX4_keep 124 = .ok (.iconst 3, 1) := by decide +kernel
theorem dX4_keep_125 : decode cX4_keep 125 = .ok (.iload_n 2, 1) := by decide +kernel
theorem dX4_keep_126 : decode cX4_keep 126 = .ok (.imul, 1) := by decide +kernel
theorem dX4_keep_127 : decode cX4_keep 127 = .ok (.iconst 1, 1) := by decide +kernel
theorem dX4_keep_128 : decode cX4_keep 128 = .ok (.iadd, 1) := by decide +kernel
theorem dX4_keep_129 : decode cX4_keep 129 = .ok (.iaload, 1) := by decide +kernel
theorem dX4_keep_130 : decode cX4_keep 130 = .ok (.iconst 1, 1) := by decide +kernel
theorem dX4_keep_131 : decode cX4_keep 131 = .ok (.isub, 1) := by decide +kernel
theorem dX4_keep_132 : decode cX4_keep 132 = .ok (.iastore, 1) := by decide +kernel
theorem dX4_keep_133 : decode cX4_keep 133 = .ok (.iconst 0, 1) := by decide +kernel
theorem dX4_keep_134 : decode cX4_keep 134 = .ok (.istore_n 3, 1) := by decide +kernel
theorem dX4_keep_135 : decode cX4_keep 135 = .ok (.iload_n 3, 1) := by decide +kernel
theorem dX4_keep_136 : decode cX4_keep 136 = .ok (.aload_n 0, 1) := by decide +kernel
theorem dX4_keep_137 : decode cX4_keep 137 = .ok (.getfield 24, 3) := by decide +kernel
theorem dX4_keep_140 : decode cX4_keep 140 = .ok (.iload_n 2, 1) := by decide +kernel
theorem dX4_keep_141 : decode cX4_keep 141 = .ok (.iaload, 1) := by decide +kernel
theorem dX4_keep_142 : decode cX4_keep 142 = .ok (.if_icmp .ge 45, 3) := by decide +kernel
theorem dX4_keep_145 : decode cX4_keep 145 = .ok (.aload_n 0, 1) := by decide +kernel
theorem dX4_keep_146 : decode cX4_keep 146 = .ok (.getfield 21, 3) := by decide +kernel
theorem dX4_keep_149 : decode cX4_keep 149 = .ok (.sipush 1900, 3) := by decide +kernel
theorem dX4_keep_152 : decode cX4_keep 152 = .ok (.iload_n 2, 1) := by decide +kernel
theorem dX4_keep_153 : decode cX4_keep 153 = .ok (.imul, 1) := by decide +kernel
theorem dX4_keep_154 : decode cX4_keep 154 = .ok (.iload_n 3, 1) := by decide +kernel
theorem dX4_keep_155 : decode cX4_keep 155 = .ok (.iadd, 1) := by decide +kernel
theorem dX4_keep_156 : decode cX4_keep 156 = .ok (.aload_n 0, 1) := by decide +kernel
theorem dX4_keep_157 : decode cX4_keep 157 = .ok (.getfield 7, 3) := by decide +kernel
theorem dX4_keep_160 : decode cX4_keep 160 = .ok (.aload_n 0, 1) := by decide +kernel
theorem dX4_keep_161 : decode cX4_keep 161 = .ok (.getfield 44, 3) := by decide +kernel
theorem dX4_keep_164 : decode cX4_keep 164 = .ok (.iload_n 1, 1) := by decide +kernel
theorem dX4_keep_165 : decode cX4_keep 165 = .ok (.iadd, 1) := by decide +kernel
theorem dX4_keep_166 : decode cX4_keep 166 = .ok (.aload_n 0, 1) := by decide +kernel
theorem dX4_keep_167 : decode cX4_keep 167 = .ok (.getfield 27, 3) := by decide +kernel
theorem dX4_keep_170 : decode cX4_keep 170 = .ok (.iconst 3, 1) := by decide +kernel
theorem dX4_keep_171 : decode cX4_keep 171 = .ok (.iload_n 2, 1) := by decide +kernel
theorem dX4_keep_172 : decode cX4_keep 172 = .ok (.imul, 1) := by decide +kernel
theorem dX4_keep_173 : decode cX4_keep 173 = .ok (.iconst 2, 1) := by decide +kernel
theorem dX4_keep_174 : decode cX4_keep 174 = .ok (.iadd, 1) := by decide +kernel
theorem dX4_keep_175 : decode cX4_keep 175 = .ok (.iaload, 1) := by decide +kernel
theorem dX4_keep_176 : decode cX4_keep 176 = .ok (.iadd, 1) := by decide +kernel
theorem dX4_keep_177 : decode cX4_keep 177 = .ok (.iload_n 3, 1) := by decide +kernel
theorem dX4_keep_178 : decode cX4_keep 178 = .ok (.iadd, 1) := by decide +kernel
theorem dX4_keep_179 : decode cX4_keep 179 = .ok (.baload, 1) := by decide +kernel
theorem dX4_keep_180 : decode cX4_keep 180 = .ok (.bastore, 1) := by decide +kernel
theorem dX4_keep_181 : decode cX4_keep 181 = .ok (.iinc 3 1, 3) := by decide +kernel
theorem dX4_keep_184 : decode cX4_keep 184 = .ok (.goto (-49), 3) := by decide +kernel
theorem dX4_keep_187 : decode cX4_keep 187 = .ok (.iinc 2 1, 3) := by decide +kernel
theorem dX4_keep_190 : decode cX4_keep 190 = .ok (.goto (-130), 3) := by decide +kernel
theorem dX4_keep_193 : decode cX4_keep 193 = .ok (.return_, 1) := by decide +kernel
theorem dX4_read_0 : decode cX4_read 0 = .ok (.aload_n 0, 1) := by decide +kernel
theorem dX4_read_1 : decode cX4_read 1 = .ok (.iconst 0, 1) := by decide +kernel
theorem dX4_read_2 : decode cX4_read 2 = .ok (.putfield 37, 3) := by decide +kernel
theorem dX4_read_5 : decode cX4_read 5 = .ok (.aload_n 0, 1) := by decide +kernel
theorem dX4_read_6 : decode cX4_read 6 = .ok (.getfield 41, 3) := by decide +kernel
theorem dX4_read_9 : decode cX4_read 9 = .ok (.aload_n 0, 1) := by decide +kernel
theorem dX4_read_10 : decode cX4_read 10 = .ok (.getfield 44, 3) := by decide +kernel
theorem dX4_read_13 : decode cX4_read 13 = .ok (.isub, 1) := by decide +kernel
theorem dX4_read_14 : decode cX4_read 14 = .ok (.bipush 24, 2) := by decide +kernel
theorem dX4_read_16 : decode cX4_read 16 = .ok (.if_icmp .ge 5, 3) := by decide +kernel
theorem dX4_read_19 : decode cX4_read 19 = .ok (.iconst 0, 1) := by decide +kernel
theorem dX4_read_20 : decode cX4_read 20 = .ok (.ireturn, 1) := by decide +kernel
theorem dX4_read_21 : decode cX4_read 21 = .ok (.aload_n 0, 1) := by decide +kernel
theorem dX4_read_22 : decode cX4_read 22 = .ok (.iconst 0, 1) := by decide +kernel
theorem dX4_read_23 : decode cX4_read 23 = .ok (.iconst 5, 1) := by decide +kernel
theorem dX4_read_24 : decode cX4_read 24 = .ok (.invokevirtual 65, 3) := by decide +kernel
theorem dX4_read_27 : decode cX4_read 27 = .ok (.ifCond .ne 23, 3) := by decide +kernel
theorem dX4_read_30 : decode cX4_read 30 = .ok (.aload_n 0, 1) := by decide +kernel
theorem dX4_read_31 : decode cX4_read 31 = .ok (.iconst 0, 1) := by decide +kernel
theorem dX4_read_32 : decode cX4_read 32 = .ok (.putfield 91, 3) := by decide +kernel
theorem dX4_read_35 : decode cX4_read 35 = .ok (.aload_n 0, 1) := by decide +kernel
theorem dX4_read_36 : decode cX4_read 36 = .ok (.aload_n 0, 1) := by decide +kernel
theorem dX4_read_37 : decode cX4_read 37 = .ok (.getfield 41, 3) := by decide +kernel
theorem dX4_read_40 : decode cX4_read 40 = .ok (.putfield 44, 3) := by decide +kernel
theorem dX4_read_43 : decode cX4_read 43 = .ok (.iconst (-1), 1) := by decide +kernel
theorem dX4_read_44 : decode cX4_read 44 = .ok (.aload_n 0, 1) := by decide +kernel
theorem dX4_read_45 : decode cX4_read 45 = .ok (.getfield 47, 3) := by decide +kernel
theorem dX4_read_48 : decode cX4_read 48 = .ok (.isub, 1) := by decide +kernel
theorem dX4_read_49 : decode cX4_read 49 = .ok (.ireturn, 1) := by decide +kernel
theorem dX4_read_50 : decode cX4_read 50 = .ok (.aload_n 0, 1) := by decide +kernel
theorem dX4_read_51 : decode cX4_read 51 = .ok (.iconst 0, 1) := by decide +kernel
theorem dX4_read_52 : decode cX4_read 52 = .ok (.iconst 5, 1) := by decide +kernel
theorem dX4_read_53 : decode cX4_read 53 = .ok (.invokevirtual 68, 3) := by decide +kernel
theorem dX4_read_56 : decode cX4_read 56 = .ok (.istore_n 1, 1) := by decide +kernel
theorem dX4_read_57 : decode cX4_read 57 = .ok (.iload_n 1, 1) := by decide +kernel
theorem dX4_read_58 : decode cX4_read 58 = .ok (.bipush 26, 2) := by decide +kernel
theorem dX4_read_60 : decode cX4_read 60 = .ok (.if_icmp .ge 18, 3) := by decide +kernel
theorem dX4_read_63 : decode cX4_read 63 = .ok (.aload_n 0, 1) := by decide +kernel
theorem dX4_read_64 : decode cX4_read 64 = .ok (.iconst 0, 1) := by decide +kernel
theorem dX4_read_65 : decode cX4_read 65 = .ok (.putfield 91, 3) := by decide +kernel
theorem dX4_read_68 : decode cX4_read 68 = .ok (.aload_n 0, 1) := by decide +kernel
theorem dX4_read_69 : decode cX4_read 69 = .ok (.aload_n 0, 1) := by decide +kernel
theorem dX4_read_70 : decode cX4_read 70 = .ok (.getfield 41, 3) := by decide +kernel
theorem dX4_read_73 : decode cX4_read 73 = .ok (.putfield 44, 3) := by decide +kernel
theorem dX4_read_76 : decode cX4_read 76 = .ok (.iconst (-1), 1) := by decide +kernel
theorem dX4_read_77 : decode cX4_read 77 = .ok (.ireturn, 1) := by decide +kernel
theorem dX4_read_78 : decode cX4_read 78 = .ok (.aload_n 0, 1) := by decide +kernel
theorem dX4_read_79 : decode cX4_read 79 = .ok (.getfield 41, 3) := by decide +kernel
theorem dX4_read_82 : decode cX4_read 82 = .ok (.aload_n 0, 1) := by decide +kernel
theorem dX4_read_83 : decode cX4_read 83 = .ok (.getfield 44, 3) := by decide +kernel
theorem dX4_read_86 : decode cX4_read 86 = .ok (.isub, 1) := by decide +kernel
theorem dX4_read_87 : decode cX4_read 87 = .ok (.iload_n 1, 1) := by decide +kernel
theorem dX4_read_88 : decode cX4_read 88 = .ok (.if_icmp .ge 5, 3) := by decide +kernel
theorem dX4_read_91 : decode cX4_read 91 = .ok (.iconst 0, 1) := by decide +kernel
theorem dX4_read_92 : decode cX4_read 92 = .ok (.ireturn, 1) := by decide +kernel
theorem dX4_read_93 : decode cX4_read 93 = .ok (.aload_n 0, 1) := by decide +kernel
theorem dX4_read_94 : decode cX4_read 94 = .ok (.aload_n 0, 1) := by decide +kernel
theorem dX4_read_95 : decode cX4_read 95 = .ok (.iload_n 1, 1) := by decide +kernel
theorem dX4_read_96 : decode cX4_read 96 = .ok (.invokevirtual 95, 3) := by decide +kernel
theorem dX4_read_99 : decode cX4_read 99 = .ok (.putfield 91, 3) := by decide +kernel
theorem dX4_read_102 : decode cX4_read 102 = .ok (.aload_n 0, 1) := by decide +kernel
theorem dX4_read_103 : decode cX4_read 103 = .ok (.getfield 91, 3) := by decide +kernel
theorem dX4_read_106 : decode cX4_read 106 = .ok (.ifCond .ne 37, 3) := by decide +kernel
theorem dX4_read_109 : decode cX4_read 109 = .ok (.aload_n 0, 1) := by decide +kernel
theorem dX4_read_110 : decode cX4_read 110 = .ok (.aload_n 0, 1) := by decide +kernel
theorem dX4_read_111 : decode cX4_read 111 = .ok (.getfield 47, 3) := by decide +kernel
theorem dX4_read_114 : decode cX4_read 114 = .ok (.iload_n 1, 1) := by decide +kernel
theorem dX4_read_115 : decode cX4_read 115 = .ok (.iconst 1, 1) := by decide +kernel
theorem dX4_read_116 : decode cX4_read 116 = .ok (.isub, 1) := by decide +kernel
theorem dX4_read_117 : decode cX4_read 117 = .ok (.if_icmp .ne 10, 3) := by decide +kernel
theorem dX4_read_120 : decode cX4_read 120 = .ok (.aload_n 0, 1) := by decide +kernel
theorem dX4_read_121 : decode cX4_read 121 = .ok (.getfield 41, 3) := by decide +kernel
theorem dX4_read_124 : decode cX4_read 124 = .ok (.goto 9, 3) := by decide +kernel
theorem dX4_read_127 : decode cX4_read 127 = .ok (.aload_n 0, 1) := by decide +kernel
theorem dX4_read_128 : decode cX4_read 128 = .ok (.getfield 44, 3) := by decide +kernel
theorem dX4_read_131 : decode cX4_read 131 = .ok (.iload_n 1, 1) := by decide +kernel
theorem dX4_read_132 : decode cX4_read 132 = .ok (.iadd, 1) := by decide +kernel
theorem dX4_read_133 : decode cX4_read 133 = .ok (.putfield 44, 3) := by decide +kernel
theorem dX4_read_136 : decode cX4_read 136 = .ok (.iconst (-1), 1) := by decide +kernel
theorem dX4_read_137 : decode cX4_read 137 = .ok (.aload_n 0, 1) := by decide +kernel
theorem dX4_read_138 : decode cX4_read 138 = .ok (.getfield 47, 3) := by decide +kernel
theorem dX4_read_141 : decode cX4_read 141 = .ok (.isub, 1) := by decide +kernel
theorem dX4_read_142 : decode cX4_read 142 = .ok (.ireturn, 1) := by decide +kernel
theorem dX4_read_143 : decode cX4_read 143 = .ok (.aload_n 0, 1) := by decide +kernel
theorem dX4_read_144 : decode cX4_read 144 = .ok (.invokevirtual 98, 3) := by decide +kernel
theorem dX4_read_147 : decode cX4_read 147 = .ok (.aload_n 0, 1) := by decide +kernel
theorem dX4_read_148 : decode cX4_read 148 = .ok (.dup, 1) := by decide +kernel
theorem dX4_read_149 : decode cX4_read 149 = .ok (.getfield 44, 3) := by decide +kernel
theorem dX4_read_152 : decode cX4_read 152 = .ok (.iload_n 1, 1) := by decide +kernel
theorem dX4_read_153 : decode cX4_read 153 = .ok (.iadd, 1) := by decide +kernel
theorem dX4_read_154 : decode cX4_read 154 = .ok (.putfield 44, 3) := by decide +kernel
theorem dX4_read_157 : decode cX4_read 157 = .ok (.iconst 1, 1) := by decide +kernel
theorem dX4_read_158 : decode cX4_read 158 = .ok (.ireturn, 1) := by decide +kernel
theorem dX4_isField_0 : decode cX4_isField 0 = .ok (.aload_n 0, 1) := by decide +kernel
theorem dX4_isField_1 : decode cX4_isField 1 = .ok (.getfield 91, 3) := by decide +kernel
theorem dX4_isField_4 : decode cX4_isField 4 = .ok (.ifCond .eq 19, 3) := by decide +kernel
theorem dX4_isField_7 : decode cX4_isField 7 = .ok (.iload_n 1, 1) := by decide +kernel
theorem dX4_isField_8 : decode cX4_isField 8 = .ok (.ifCond .le 15, 3) := by decide +kernel
theorem dX4_isField_11 : decode cX4_isField 11 = .ok (.iload_n 1, 1) := by decide +kernel
theorem dX4_isField_12 : decode cX4_isField 12 = .ok (.aload_n 0, 1) := by decide +kernel
theorem dX4_isField_13 : decode cX4_isField 13 = .ok (.getfield 88, 3) := by decide +kernel
theorem dX4_isField_16 : decode cX4_isField 16 = .ok (.if_icmp .gt 7, 3) := by decide +kernel
theorem dX4_isField_19 : decode cX4_isField 19 = .ok (.iconst 1, 1) := by decide +kernel
theorem dX4_isField_20 : decode cX4_isField 20 = .ok (.goto 4, 3) := by decide +kernel
theorem dX4_isField_23 : decode cX4_isField 23 = .ok (.iconst 0, 1) := by decide +kernel
theorem dX4_isField_24 : decode cX4_isField 24 = .ok (.ireturn, 1) := by decide +kernel
theorem dX4_at_0 : decode cX4_at 0 = .ok (.aload_n 0, 1) := by decide +kernel
theorem dX4_at_1 : decode cX4_at 1 = .ok (.getfield 21, 3) := by decide +kernel
theorem dX4_at_4 : decode cX4_at 4 = .ok (.sipush 1900, 3) := by decide +kernel
theorem dX4_at_7 : decode cX4_at 7 = .ok (.iload_n 1, 1) := by decide +kernel
theorem dX4_at_8 : decode cX4_at 8 = .ok (.iconst 1, 1) := by decide +kernel
theorem dX4_at_9 : decode cX4_at 9 = .ok (.isub, 1) := by decide +kernel
theorem dX4_at_10 : decode cX4_at 10 = .ok (.imul, 1) := by decide +kernel
theorem dX4_at_11 : decode cX4_at 11 = .ok (.iload_n 2, 1) := by decide +kernel
theorem dX4_at_12 : decode cX4_at 12 = .ok (.iadd, 1) := by decide +kernel
theorem dX4_at_13 : decode cX4_at 13 = .ok (.baload, 1) := by decide +kernel
theorem dX4_at_14 : decode cX4_at 14 = .ok (.sipush 255, 3) := by decide +kernel
theorem dX4_at_17 : decode cX4_at 17 = .ok (.iand, 1) := by decide +kernel
theorem dX4_at_18 : decode cX4_at 18 = .ok (.ireturn, 1) := by decide +kernel
theorem dX4_field_0 : decode cX4_field 0 = .ok (.aload_n 0, 1) := by decide +kernel
theorem dX4_field_1 : decode cX4_field 1 = .ok (.iconst 0, 1) := by decide +kernel
theorem dX4_field_2 : decode cX4_field 2 = .ok (.putfield 37, 3) := by decide +kernel
theorem dX4_field_5 : decode cX4_field 5 = .ok (.iconst 0, 1) := by decide +kernel
theorem dX4_field_6 : decode cX4_field 6 = .ok (.istore_n 3, 1) := by decide +kernel
theorem dX4_field_7 : decode cX4_field 7 = .ok (.iconst 1, 1) := by decide +kernel
theorem dX4_field_8 : decode cX4_field 8 = .ok (.istore 4, 2) := by decide +kernel
theorem dX4_field_10 : decode cX4_field 10 = .ok (.iload 4, 2) := by decide +kernel
theorem dX4_field_12 : decode cX4_field 12 = .ok (.aload_n 0, 1) := by decide +kernel
theorem dX4_field_13 : decode cX4_field 13 = .ok (.getfield 88, 3) := by decide +kernel
theorem dX4_field_16 : decode cX4_field 16 = .ok (.if_icmp .gt 44, 3) := by decide +kernel
theorem dX4_field_19 : decode cX4_field 19 = .ok (.aload_n 0, 1) := by decide +kernel
theorem dX4_field_20 : decode cX4_field 20 = .ok (.getfield 91, 3) := by decide +kernel
theorem dX4_field_23 : decode cX4_field 23 = .ok (.ifCond .eq 37, 3) := by decide +kernel
theorem dX4_field_26 : decode cX4_field 26 = .ok (.iload_n 2, 1) := by decide +kernel
theorem dX4_field_27 : decode cX4_field 27 = .ok (.ifCond .lt 33, 3) := by decide +kernel
theorem dX4_field_30 : decode cX4_field 30 = .ok (.aload_n 0, 1) := by decide +kernel
theorem dX4_field_31 : decode cX4_field 31 = .ok (.getfield 16, 3) := by decide +kernel
theorem dX4_field_34 : decode cX4_field 34 = .ok (.iload 4, 2) := by decide +kernel
theorem dX4_field_36 : decode cX4_field 36 = .ok (.iconst 1, 1) := by decide +kernel
theorem dX4_field_37 : decode cX4_field 37 = .ok (.isub, 1) := by decide +kernel
theorem dX4_field_38 : decode cX4_field 38 = .ok (.iaload, 1) := by decide +kernel
theorem dX4_field_39 : decode cX4_field 39 = .ok (.iload_n 1, 1) := by decide +kernel
theorem dX4_field_40 : decode cX4_field 40 = .ok (.if_icmp .ne 14, 3) := by decide +kernel
theorem dX4_field_43 : decode cX4_field 43 = .ok (.iload_n 3, 1) := by decide +kernel
theorem dX4_field_44 : decode cX4_field 44 = .ok (.iload_n 2, 1) := by decide +kernel
theorem dX4_field_45 : decode cX4_field 45 = .ok (.if_icmp .ne 6, 3) := by decide +kernel
theorem dX4_field_48 : decode cX4_field 48 = .ok (.iload 4, 2) := by decide +kernel
theorem dX4_field_50 : decode cX4_field 50 = .ok (.ireturn, 1) := by decide +kernel
theorem dX4_field_51 : decode cX4_field 51 = .ok (.iinc 3 1, 3) := by decide +kernel
theorem dX4_field_54 : decode cX4_field 54 = .ok (.iinc 4 1, 3) := by decide +kernel
theorem dX4_field_57 : decode cX4_field 57 = .ok (.goto (-47), 3) := by decide +kernel
theorem dX4_field_60 : decode cX4_field 60 = .ok (.iconst 0, 1) := by decide +kernel
theorem dX4_field_61 : decode cX4_field 61 = .ok (.ireturn, 1) := by decide +kernel
theorem dX4_indicator_0 : decode cX4_indicator 0 = .ok (.aload_n 0, 1) := by decide +kernel
theorem dX4_indicator_1 : decode cX4_indicator 1 = .ok (.iconst 0, 1) := by decide +kernel
theorem dX4_indicator_2 : decode cX4_indicator 2 = .ok (.putfield 37, 3) := by decide +kernel
theorem dX4_indicator_5 : decode cX4_indicator 5 = .ok (.aload_n 0, 1) := by decide +kernel
theorem dX4_indicator_6 : decode cX4_indicator 6 = .ok (.iload_n 1, 1) := by decide +kernel
theorem dX4_indicator_7 : decode cX4_indicator 7 = .ok (.invokevirtual 101, 3) := by decide +kernel
theorem dX4_indicator_10 : decode cX4_indicator 10 = .ok (.ifCond .eq 25, 3) := by decide +kernel
theorem dX4_indicator_13 : decode cX4_indicator 13 = .ok (.aload_n 0, 1) := by decide +kernel
theorem dX4_indicator_14 : decode cX4_indicator 14 = .ok (.getfield 16, 3) := by decide +kernel
theorem dX4_indicator_17 : decode cX4_indicator 17 = .ok (.iload_n 1, 1) := by decide +kernel
theorem dX4_indicator_18 : decode cX4_indicator 18 = .ok (.iconst 1, 1) := by decide +kernel
theorem dX4_indicator_19 : decode cX4_indicator 19 = .ok (.isub, 1) := by decide +kernel
theorem dX4_indicator_20 : decode cX4_indicator 20 = .ok (.iaload, 1) := by decide +kernel
theorem dX4_indicator_21 : decode cX4_indicator 21 = .ok (.bipush 10, 2) := by decide +kernel
theorem dX4_indicator_23 : decode cX4_indicator 23 = .ok (.if_icmp .lt 12, 3) := by decide +kernel
theorem dX4_indicator_26 : decode cX4_indicator 26 = .ok (.iload_n 2, 1) := by decide +kernel
theorem dX4_indicator_27 : decode cX4_indicator 27 = .ok (.ifCond .lt 8, 3) := by decide +kernel
theorem dX4_indicator_30 : decode cX4_indicator 30 = .ok (.iload_n 2, 1) := by decide +kernel
theorem dX4_indicator_31 : decode cX4_indicator 31 = .ok (.iconst 1, 1) := by decide +kernel
theorem dX4_indicator_32 : decode cX4_indicator 32 = .ok (.if_icmp .le 7, 3) := by decide +kernel
theorem dX4_indicator_35 : decode cX4_indicator 35 = .ok (.iconst (-1), 1) := by decide +kernel
theorem dX4_indicator_36 : decode cX4_indicator 36 = .ok (.goto 9, 3) := by decide +kernel
theorem dX4_indicator_39 : decode cX4_indicator 39 = .ok (.aload_n 0, 1) := by decide +kernel
theorem dX4_indicator_40 : decode cX4_indicator 40 = .ok (.iload_n 1, 1) := by decide +kernel
theorem dX4_indicator_41 : decode cX4_indicator 41 = .ok (.iload_n 2, 1) := by decide +kernel
theorem dX4_indicator_42 : decode cX4_indicator 42 = .ok (.invokevirtual 104, 3) := by decide +kernel
theorem dX4_indicator_45 : decode cX4_indicator 45 = .ok (.ireturn, 1) := by decide +kernel
theorem dX4_subfield_0 : decode cX4_subfield 0 = .ok (.aload_n 0, 1) := by decide +kernel
theorem dX4_subfield_1 : decode cX4_subfield 1 = .ok (.iconst 0, 1) := by decide +kernel
theorem dX4_subfield_2 : decode cX4_subfield 2 = .ok (.putfield 37, 3) := by decide +kernel
theorem dX4_subfield_5 : decode cX4_subfield 5 = .ok (.aload_n 0, 1) := by decide +kernel
theorem dX4_subfield_6 : decode cX4_subfield 6 = .ok (.iload_n 1, 1) := by decide +kernel
theorem dX4_subfield_7 : decode cX4_subfield 7 = .ok (.invokevirtual 101, 3) := by decide +kernel
theorem dX4_subfield_10 : decode cX4_subfield 10 = .ok (.ifCond .eq 8, 3) := by decide +kernel
theorem dX4_subfield_13 : decode cX4_subfield 13 = .ok (.iload 4, 2) := by decide +kernel
theorem dX4_subfield_15 : decode cX4_subfield 15 = .ok (.ifCond .ge 5, 3) := by decide +kernel
theorem dX4_subfield_18 : decode cX4_subfield 18 = .ok (.iconst (-1), 1) := by decide +kernel
theorem dX4_subfield_19 : decode cX4_subfield 19 = .ok (.ireturn, 1) := by decide +kernel
theorem dX4_subfield_20 : decode cX4_subfield 20 = .ok (.aload_n 0, 1) := by decide +kernel
theorem dX4_subfield_21 : decode cX4_subfield 21 = .ok (.getfield 24, 3) := by decide +kernel
theorem dX4_subfield_24 : decode cX4_subfield 24 = .ok (.iload_n 1, 1) := by decide +kernel
theorem dX4_subfield_25 : decode cX4_subfield 25 = .ok (.iconst 1, 1) := by decide +kernel
theorem dX4_subfield_26 : decode cX4_subfield 26 = .ok (.isub, 1) := by decide +kernel
theorem dX4_subfield_27 : decode cX4_subfield 27 = .ok (.iaload, 1) := by decide +kernel
theorem dX4_subfield_28 : decode cX4_subfield 28 = .ok (.istore 5, 2) := by decide +kernel
theorem dX4_subfield_30 : decode cX4_subfield 30 = .ok (.aload_n 0, 1) := by decide +kernel
theorem dX4_subfield_31 : decode cX4_subfield 31 = .ok (.getfield 16, 3) := by decide +kernel
theorem dX4_subfield_34 : decode cX4_subfield 34 = .ok (.iload_n 1, 1) := by decide +kernel
theorem dX4_subfield_35 : decode cX4_subfield 35 = .ok (.iconst 1, 1) := by decide +kernel
theorem dX4_subfield_36 : decode cX4_subfield 36 = .ok (.isub, 1) := by decide +kernel
theorem dX4_subfield_37 : decode cX4_subfield 37 = .ok (.iaload, 1) := by decide +kernel
theorem dX4_subfield_38 : decode cX4_subfield 38 = .ok (.bipush 10, 2) := by decide +kernel
theorem dX4_subfield_40 : decode cX4_subfield 40 = .ok (.if_icmp .ge 22, 3) := by decide +kernel
theorem dX4_subfield_43 : decode cX4_subfield 43 = .ok (.iload 4, 2) := by decide +kernel
theorem dX4_subfield_45 : decode cX4_subfield 45 = .ok (.iload 5, 2) := by decide +kernel
theorem dX4_subfield_47 : decode cX4_subfield 47 = .ok (.if_icmp .ge 13, 3) := by decide +kernel
theorem dX4_subfield_50 : decode cX4_subfield 50 = .ok (.aload_n 0, 1) := by decide +kernel
theorem dX4_subfield_51 : decode cX4_subfield 51 = .ok (.iload_n 1, 1) := by decide +kernel
theorem dX4_subfield_52 : decode cX4_subfield 52 = .ok (.iload 4, 2) := by decide +kernel
theorem dX4_subfield_54 : decode cX4_subfield 54 = .ok (.invokevirtual 104, 3) := by decide +kernel
theorem dX4_subfield_57 : decode cX4_subfield 57 = .ok (.goto 4, 3) := by decide +kernel
theorem dX4_subfield_60 : decode cX4_subfield 60 = .ok (.iconst (-1), 1) := by decide +kernel
theorem dX4_subfield_61 : decode cX4_subfield 61 = .ok (.ireturn, 1) := by decide +kernel
theorem dX4_subfield_62 : decode cX4_subfield 62 = .ok (.iconst 0, 1) := by decide +kernel
theorem dX4_subfield_63 : decode cX4_subfield 63 = .ok (.istore 6, 2) := by decide +kernel
theorem dX4_subfield_65 : decode cX4_subfield 65 = .ok (.iconst 2, 1) := by decide +kernel
theorem dX4_subfield_66 : decode cX4_subfield 66 = .ok (.istore 7, 2) := by decide +kernel
theorem dX4_subfield_68 : decode cX4_subfield 68 = .ok (.iload 7, 2) := by decide +kernel
theorem dX4_subfield_70 : decode cX4_subfield 70 = .ok (.iload 5, 2) := by decide +kernel
theorem dX4_subfield_72 : decode cX4_subfield 72 = .ok (.if_icmp .ge 133, 3) := by decide +kernel
theorem dX4_subfield_75 : decode cX4_subfield 75 = .ok (.iload_n 2, 1) := by decide +kernel
theorem dX4_subfield_76 : decode cX4_subfield 76 = .ok (.ifCond .lt 129, 3) := by decide +kernel
theorem dX4_subfield_79 : decode cX4_subfield 79 = .ok (.aload_n 0, 1) := by decide +kernel
theorem dX4_subfield_80 : decode cX4_subfield 80 = .ok (.iload_n 1, 1) := by decide +kernel
theorem dX4_subfield_81 : decode cX4_subfield 81 = .ok (.iload 7, 2) := by decide +kernel
theorem dX4_subfield_83 : decode cX4_subfield 83 = .ok (.invokevirtual 104, 3) := by decide +kernel
theorem dX4_subfield_86 : decode cX4_subfield 86 = .ok (.bipush 31, 2) := by decide +kernel
theorem dX4_subfield_88 : decode cX4_subfield 88 = .ok (.if_icmp .ne 111, 3) := by decide +kernel
theorem dX4_subfield_91 : decode cX4_subfield 91 = .ok (.aload_n 0, 1) := by decide +kernel
theorem dX4_subfield_92 : decode cX4_subfield 92 = .ok (.iload_n 1, 1) := by decide +kernel
theorem dX4_subfield_93 : decode cX4_subfield 93 = .ok (.iload 7, 2) := by decide +kernel
theorem dX4_subfield_95 : decode cX4_subfield 95 = .ok (.iconst 1, 1) := by decide +kernel
theorem dX4_subfield_96 : decode cX4_subfield 96 = .ok (.iadd, 1) := by decide +kernel
theorem dX4_subfield_97 : decode cX4_subfield 97 = .ok (.invokevirtual 104, 3) := by decide +kernel
theorem dX4_subfield_100 : decode cX4_subfield 100 = .ok (.iload_n 3, 1) := by decide +kernel
theorem dX4_subfield_101 : decode cX4_subfield 101 = .ok (.if_icmp .ne 98, 3) := by decide +kernel
theorem dX4_subfield_104 : decode cX4_subfield 104 = .ok (.iload 6, 2) := by decide +kernel
theorem dX4_subfield_106 : decode cX4_subfield 106 = .ok (.iload_n 2, 1) := by decide +kernel
theorem dX4_subfield_107 : decode cX4_subfield 107 = .ok (.if_icmp .ne 89, 3) := by decide +kernel
theorem dX4_subfield_110 : decode cX4_subfield 110 = .ok (.iload 7, 2) := by decide +kernel
theorem dX4_subfield_112 : decode cX4_subfield 112 = .ok (.iconst 2, 1) := by decide +kernel
theorem dX4_subfield_113 : decode cX4_subfield 113 = .ok (.iadd, 1) := by decide +kernel
theorem dX4_subfield_114 : decode cX4_subfield 114 = .ok (.istore 8, 2) := by decide +kernel
theorem dX4_subfield_116 : decode cX4_subfield 116 = .ok (.iload 8, 2) := by decide +kernel
theorem dX4_subfield_118 : decode cX4_subfield 118 = .ok (.iload 5, 2) := by decide +kernel
theorem dX4_subfield_120 : decode cX4_subfield 120 = .ok (.if_icmp .ge 33, 3) := by decide +kernel
theorem dX4_subfield_123 : decode cX4_subfield 123 = .ok (.aload_n 0, 1) := by decide +kernel
theorem dX4_subfield_124 : decode cX4_subfield 124 = .ok (.iload_n 1, 1) := by decide +kernel
theorem dX4_subfield_125 : decode cX4_subfield 125 = .ok (.iload 8, 2) := by decide +kernel
theorem dX4_subfield_127 : decode cX4_subfield 127 = .ok (.invokevirtual 104, 3) := by decide +kernel
theorem dX4_subfield_130 : decode cX4_subfield 130 = .ok (.bipush 31, 2) := by decide +kernel
theorem dX4_subfield_132 : decode cX4_subfield 132 = .ok (.if_icmp .eq 21, 3) := by decide +kernel
theorem dX4_subfield_135 : decode cX4_subfield 135 = .ok (.iload 8, 2) := by decide +kernel
theorem dX4_subfield_137 : decode cX4_subfield 137 = .ok (.iload 7, 2) := by decide +kernel
theorem dX4_subfield_139 : decode cX4_subfield 139 = .ok (.iconst 2, 1) := by decide +kernel
theorem dX4_subfield_140 : decode cX4_subfield 140 = .ok (.iadd, 1) := by decide +kernel
theorem dX4_subfield_141 : decode cX4_subfield 141 = .ok (.iload 4, 2) := by decide +kernel
theorem dX4_subfield_143 : decode cX4_subfield 143 = .ok (.iadd, 1) := by decide +kernel
theorem dX4_subfield_144 : decode cX4_subfield 144 = .ok (.if_icmp .ge 9, 3) := by decide +kernel
theorem dX4_subfield_147 : decode cX4_subfield 147 = .ok (.iinc 8 1, 3) := by decide +kernel
theorem dX4_subfield_150 : decode cX4_subfield 150 = .ok (.goto (-34), 3) := by decide +kernel
theorem dX4_subfield_153 : decode cX4_subfield 153 = .ok (.iload 8, 2) := by decide +kernel
theorem dX4_subfield_155 : decode cX4_subfield 155 = .ok (.iload 5, 2) := by decide +kernel
theorem dX4_subfield_157 : decode cX4_subfield 157 = .ok (.if_icmp .ge 37, 3) := by decide +kernel
theorem dX4_subfield_160 : decode cX4_subfield 160 = .ok (.iload 8, 2) := by decide +kernel
theorem dX4_subfield_162 : decode cX4_subfield 162 = .ok (.iload 7, 2) := by decide +kernel
theorem dX4_subfield_164 : decode cX4_subfield 164 = .ok (.iconst 2, 1) := by decide +kernel
theorem dX4_subfield_165 : decode cX4_subfield 165 = .ok (.iadd, 1) := by decide +kernel
theorem dX4_subfield_166 : decode cX4_subfield 166 = .ok (.iload 4, 2) := by decide +kernel
theorem dX4_subfield_168 : decode cX4_subfield 168 = .ok (.iadd, 1) := by decide +kernel
theorem dX4_subfield_169 : decode cX4_subfield 169 = .ok (.if_icmp .ne 25, 3) := by decide +kernel
theorem dX4_subfield_172 : decode cX4_subfield 172 = .ok (.aload_n 0, 1) := by decide +kernel
theorem dX4_subfield_173 : decode cX4_subfield 173 = .ok (.iload_n 1, 1) := by decide +kernel
theorem dX4_subfield_174 : decode cX4_subfield 174 = .ok (.iload 8, 2) := by decide +kernel
theorem dX4_subfield_176 : decode cX4_subfield 176 = .ok (.invokevirtual 104, 3) := by decide +kernel
theorem dX4_subfield_179 : decode cX4_subfield 179 = .ok (.bipush 31, 2) := by decide +kernel
theorem dX4_subfield_181 : decode cX4_subfield 181 = .ok (.if_icmp .eq 13, 3) := by decide +kernel
theorem dX4_subfield_184 : decode cX4_subfield 184 = .ok (.aload_n 0, 1) := by decide +kernel
theorem dX4_subfield_185 : decode cX4_subfield 185 = .ok (.iload_n 1, 1) := by decide +kernel
theorem dX4_subfield_186 : decode cX4_subfield 186 = .ok (.iload 8, 2) := by decide +kernel
theorem dX4_subfield_188 : decode cX4_subfield 188 = .ok (.invokevirtual 104, 3) := by decide +kernel
theorem dX4_subfield_191 : decode cX4_subfield 191 = .ok (.goto 4, 3) := by decide +kernel
theorem dX4_subfield_194 : decode cX4_subfield 194 = .ok (.iconst (-1), 1) := by decide +kernel
theorem dX4_subfield_195 : decode cX4_subfield 195 = .ok (.ireturn, 1) := by decide +kernel
theorem dX4_subfield_196 : decode cX4_subfield 196 = .ok (.iinc 6 1, 3) := by decide +kernel
theorem dX4_subfield_199 : decode cX4_subfield 199 = .ok (.iinc 7 1, 3) := by decide +kernel
theorem dX4_subfield_202 : decode cX4_subfield 202 = .ok (.goto (-134), 3) := by decide +kernel
theorem dX4_subfield_205 : decode cX4_subfield 205 = .ok (.iconst (-1), 1) := by decide +kernel
theorem dX4_subfield_206 : decode cX4_subfield 206 = .ok (.ireturn, 1) := by decide +kernel
theorem dX4_directory_0 : decode cX4_directory 0 = .ok (.aload_n 0, 1) := by decide +kernel
theorem dX4_directory_1 : decode cX4_directory 1 = .ok (.iconst 0, 1) := by decide +kernel
theorem dX4_directory_2 : decode cX4_directory 2 = .ok (.putfield 37, 3) := by decide +kernel
theorem dX4_directory_5 : decode cX4_directory 5 = .ok (.iload_n 1, 1) := by decide +kernel
theorem dX4_directory_6 : decode cX4_directory 6 = .ok (.ifCond .lt 11, 3) := by decide +kernel
theorem dX4_directory_9 : decode cX4_directory 9 = .ok (.iload_n 1, 1) := by decide +kernel
theorem dX4_directory_10 : decode cX4_directory 10 = .ok (.aload_n 0, 1) := by decide +kernel
theorem dX4_directory_11 : decode cX4_directory 11 = .ok (.getfield 85, 3) := by decide +kernel
theorem dX4_directory_14 : decode cX4_directory 14 = .ok (.if_icmp .lt 10, 3) := by decide +kernel
theorem dX4_directory_17 : decode cX4_directory 17 = .ok (.aload_n 0, 1) := by decide +kernel
theorem dX4_directory_18 : decode cX4_directory 18 = .ok (.iconst 1, 1) := by decide +kernel
theorem dX4_directory_19 : decode cX4_directory 19 = .ok (.putfield 37, 3) := by decide +kernel
theorem dX4_directory_22 : decode cX4_directory 22 = .ok (.iconst 0, 1) := by decide +kernel
theorem dX4_directory_23 : decode cX4_directory 23 = .ok (.ireturn, 1) := by decide +kernel
theorem dX4_directory_24 : decode cX4_directory 24 = .ok (.iload_n 2, 1) := by decide +kernel
theorem dX4_directory_25 : decode cX4_directory 25 = .ok (.ifCond .lt 8, 3) := by decide +kernel
theorem dX4_directory_28 : decode cX4_directory 28 = .ok (.iload_n 2, 1) := by decide +kernel
theorem dX4_directory_29 : decode cX4_directory 29 = .ok (.iconst 2, 1) := by decide +kernel
theorem dX4_directory_30 : decode cX4_directory 30 = .ok (.if_icmp .le 7, 3) := by decide +kernel
theorem dX4_directory_33 : decode cX4_directory 33 = .ok (.iconst (-1), 1) := by decide +kernel
theorem dX4_directory_34 : decode cX4_directory 34 = .ok (.goto 13, 3) := by decide +kernel
theorem dX4_directory_37 : decode cX4_directory 37 = .ok (.aload_n 0, 1) := by decide +kernel
theorem dX4_directory_38 : decode cX4_directory 38 = .ok (.getfield 27, 3) := by decide +kernel
theorem dX4_directory_41 : decode cX4_directory 41 = .ok (.iconst 3, 1) := by decide +kernel
theorem dX4_directory_42 : decode cX4_directory 42 = .ok (.iload_n 1, 1) := by decide +kernel
theorem dX4_directory_43 : decode cX4_directory 43 = .ok (.imul, 1) := by decide +kernel
theorem dX4_directory_44 : decode cX4_directory 44 = .ok (.iload_n 2, 1) := by decide +kernel
theorem dX4_directory_45 : decode cX4_directory 45 = .ok (.iadd, 1) := by decide +kernel
theorem dX4_directory_46 : decode cX4_directory 46 = .ok (.iaload, 1) := by decide +kernel
theorem dX4_directory_47 : decode cX4_directory 47 = .ok (.ireturn, 1) := by decide +kernel
theorem dX4_length_0 : decode cX4_length 0 = .ok (.aload_n 0, 1) := by decide +kernel
theorem dX4_length_1 : decode cX4_length 1 = .ok (.iconst 0, 1) := by decide +kernel
theorem dX4_length_2 : decode cX4_length 2 = .ok (.putfield 37, 3) := by decide +kernel
theorem dX4_length_5 : decode cX4_length 5 = .ok (.aload_n 0, 1) := by decide +kernel
theorem dX4_length_6 : decode cX4_length 6 = .ok (.getfield 91, 3) := by decide +kernel
theorem dX4_length_9 : decode cX4_length 9 = .ok (.ifCond .eq 10, 3) := by decide +kernel
theorem dX4_length_12 : decode cX4_length 12 = .ok (.aload_n 0, 1) := by decide +kernel
theorem dX4_length_13 : decode cX4_length 13 = .ok (.getfield 88, 3) := by decide +kernel
theorem dX4_length_16 : decode cX4_length 16 = .ok (.goto 4, 3) := by decide +kernel
theorem dX4_length_19 : decode cX4_length 19 = .ok (.iconst (-1), 1) := by decide +kernel
theorem dX4_length_20 : decode cX4_length 20 = .ok (.ireturn, 1) := by decide +kernel
theorem dX4_isAny_0 : decode cX4_isAny 0 = .ok (.iload_n 0, 1) := by decide +kernel
theorem dX4_isAny_1 : decode cX4_isAny 1 = .ok (.iconst 5, 1) := by decide +kernel
theorem dX4_isAny_2 : decode cX4_isAny 2 = .ok (.if_icmp .lt 9, 3) := by decide +kernel
theorem dX4_isAny_5 : decode cX4_isAny 5 = .ok (.iload_n 0, 1) := by decide +kernel
theorem dX4_isAny_6 : decode cX4_isAny 6 = .ok (.bipush 9, 2) := by decide +kernel
theorem dX4_isAny_8 : decode cX4_isAny 8 = .ok (.if_icmp .le 27, 3) := by decide +kernel
theorem dX4_isAny_11 : decode cX4_isAny 11 = .ok (.iload_n 0, 1) := by decide +kernel
theorem dX4_isAny_12 : decode cX4_isAny 12 = .ok (.bipush 17, 2) := by decide +kernel
theorem dX4_isAny_14 : decode cX4_isAny 14 = .ok (.if_icmp .lt 9, 3) := by decide +kernel
theorem dX4_isAny_17 : decode cX4_isAny 17 = .ok (.iload_n 0, 1) := by decide +kernel
theorem dX4_isAny_18 : decode cX4_isAny 18 = .ok (.bipush 19, 2) := by decide +kernel
theorem dX4_isAny_20 : decode cX4_isAny 20 = .ok (.if_icmp .le 15, 3) := by decide +kernel
theorem dX4_isAny_23 : decode cX4_isAny 23 = .ok (.iload_n 0, 1) := by decide +kernel
theorem dX4_isAny_24 : decode cX4_isAny 24 = .ok (.bipush 22, 2) := by decide +kernel
theorem dX4_isAny_26 : decode cX4_isAny 26 = .ok (.if_icmp .eq 9, 3) := by decide +kernel
theorem dX4_isAny_29 : decode cX4_isAny 29 = .ok (.iload_n 0, 1) := by decide +kernel
theorem dX4_isAny_30 : decode cX4_isAny 30 = .ok (.bipush 23, 2) := by decide +kernel
theorem dX4_isAny_32 : decode cX4_isAny 32 = .ok (.if_icmp .ne 7, 3) := by decide +kernel
theorem dX4_isAny_35 : decode cX4_isAny 35 = .ok (.iconst 1, 1) := by decide +kernel
theorem dX4_isAny_36 : decode cX4_isAny 36 = .ok (.goto 4, 3) := by decide +kernel
theorem dX4_isAny_39 : decode cX4_isAny 39 = .ok (.iconst 0, 1) := by decide +kernel
theorem dX4_isAny_40 : decode cX4_isAny 40 = .ok (.ireturn, 1) := by decide +kernel
theorem dX4_leader_0 : decode cX4_leader 0 = .ok (.aload_n 0, 1) := by decide +kernel
theorem dX4_leader_1 : decode cX4_leader 1 = .ok (.iconst 0, 1) := by decide +kernel
theorem dX4_leader_2 : decode cX4_leader 2 = .ok (.putfield 37, 3) := by decide +kernel
theorem dX4_leader_5 : decode cX4_leader 5 = .ok (.iload_n 1, 1) := by decide +kernel
theorem dX4_leader_6 : decode cX4_leader 6 = .ok (.invokestatic 107, 3) := by decide +kernel
theorem dX4_leader_9 : decode cX4_leader 9 = .ok (.ifCond .ne 5, 3) := by decide +kernel
theorem dX4_leader_12 : decode cX4_leader 12 = .ok (.iconst 0, 1) := by decide +kernel
theorem dX4_leader_13 : decode cX4_leader 13 = .ok (.ireturn, 1) := by decide +kernel
theorem dX4_leader_14 : decode cX4_leader 14 = .ok (.aload_n 0, 1) := by decide +kernel
theorem dX4_leader_15 : decode cX4_leader 15 = .ok (.getfield 91, 3) := by decide +kernel
theorem dX4_leader_18 : decode cX4_leader 18 = .ok (.ifCond .ne 35, 3) := by decide +kernel
theorem dX4_leader_21 : decode cX4_leader 21 = .ok (.aload_n 0, 1) := by decide +kernel
theorem dX4_leader_22 : decode cX4_leader 22 = .ok (.iconst 1, 1) := by decide +kernel
theorem dX4_leader_23 : decode cX4_leader 23 = .ok (.putfield 91, 3) := by decide +kernel
theorem dX4_leader_26 : decode cX4_leader 26 = .ok (.aload_n 0, 1) := by decide +kernel
theorem dX4_leader_27 : decode cX4_leader 27 = .ok (.iconst 0, 1) := by decide +kernel
theorem dX4_leader_28 : decode cX4_leader 28 = .ok (.putfield 88, 3) := by decide +kernel
theorem dX4_leader_31 : decode cX4_leader 31 = .ok (.iconst 0, 1) := by decide +kernel
theorem dX4_leader_32 : decode cX4_leader 32 = .ok (.istore_n 3, 1) := by decide +kernel
theorem dX4_leader_33 : decode cX4_leader 33 = .ok (.iload_n 3, 1) := by decide +kernel
theorem dX4_leader_34 : decode cX4_leader 34 = .ok (.bipush 24, 2) := by decide +kernel
theorem dX4_leader_36 : decode cX4_leader 36 = .ok (.if_icmp .ge 17, 3) := by decide +kernel
theorem dX4_leader_39 : decode cX4_leader 39 = .ok (.aload_n 0, 1) := by decide +kernel
theorem dX4_leader_40 : decode cX4_leader 40 = .ok (.getfield 13, 3) := by decide +kernel
theorem dX4_leader_43 : decode cX4_leader 43 = .ok (.iload_n 3, 1) := by decide +kernel
theorem dX4_leader_44 : decode cX4_leader 44 = .ok (.bipush 32, 2) := by decide +kernel
theorem dX4_leader_46 : decode cX4_leader 46 = .ok (.bastore, 1) := by decide +kernel
theorem dX4_leader_47 : decode cX4_leader 47 = .ok (.iinc 3 1, 3) := by decide +kernel
theorem dX4_leader_50 : decode cX4_leader 50 = .ok (.goto (-17), 3) := by decide +kernel
theorem dX4_leader_53 : decode cX4_leader 53 = .ok (.aload_n 0, 1) := by decide +kernel
theorem dX4_leader_54 : decode cX4_leader 54 = .ok (.getfield 13, 3) := by decide +kernel
theorem dX4_leader_57 : decode cX4_leader 57 = .ok (.iload_n 1, 1) := by decide +kernel
theorem dX4_leader_58 : decode cX4_leader 58 = .ok (.iload_n 2, 1) := by decide +kernel
theorem dX4_leader_59 : decode cX4_leader 59 = .ok (.i2b, 1) := by decide +kernel
theorem dX4_leader_60 : decode cX4_leader 60 = .ok (.bastore, 1) := by decide +kernel
theorem dX4_leader_61 : decode cX4_leader 61 = .ok (.iconst 1, 1) := by decide +kernel
theorem dX4_leader_62 : decode cX4_leader 62 = .ok (.ireturn, 1) := by decide +kernel
theorem dX4_put_0 : decode cX4_put 0 = .ok (.aload_n 0, 1) := by decide +kernel
theorem dX4_put_1 : decode cX4_put 1 = .ok (.iconst 0, 1) := by decide +kernel
theorem dX4_put_2 : decode cX4_put 2 = .ok (.putfield 37, 3) := by decide +kernel
theorem dX4_put_5 : decode cX4_put 5 = .ok (.aload_n 0, 1) := by decide +kernel
theorem dX4_put_6 : decode cX4_put 6 = .ok (.getfield 91, 3) := by decide +kernel
theorem dX4_put_9 : decode cX4_put 9 = .ok (.ifCond .eq 23, 3) := by decide +kernel
theorem dX4_put_12 : decode cX4_put 12 = .ok (.iload_n 1, 1) := by decide +kernel
theorem dX4_put_13 : decode cX4_put 13 = .ok (.ifCond .lt 19, 3) := by decide +kernel
theorem dX4_put_16 : decode cX4_put 16 = .ok (.iload_n 1, 1) := by decide +kernel
theorem dX4_put_17 : decode cX4_put 17 = .ok (.sipush 999, 3) := by decide +kernel
theorem dX4_put_20 : decode cX4_put 20 = .ok (.if_icmp .gt 12, 3) := by decide +kernel
theorem dX4_put_23 : decode cX4_put 23 = .ok (.aload_n 0, 1) := by decide +kernel
theorem dX4_put_24 : decode cX4_put 24 = .ok (.getfield 88, 3) := by decide +kernel
theorem dX4_put_27 : decode cX4_put 27 = .ok (.bipush 60, 2) := by decide +kernel
theorem dX4_put_29 : decode cX4_put 29 = .ok (.if_icmp .ne 5, 3) := by decide +kernel
theorem dX4_put_32 : decode cX4_put 32 = .ok (.iconst 0, 1) := by decide +kernel
theorem dX4_put_33 : decode cX4_put 33 = .ok (.ireturn, 1) := by decide +kernel
theorem dX4_put_34 : decode cX4_put 34 = .ok (.aload_n 0, 1) := by decide +kernel
theorem dX4_put_35 : decode cX4_put 35 = .ok (.getfield 16, 3) := by decide +kernel
theorem dX4_put_38 : decode cX4_put 38 = .ok (.aload_n 0, 1) := by decide +kernel
theorem dX4_put_39 : decode cX4_put 39 = .ok (.getfield 88, 3) := by decide +kernel
theorem dX4_put_42 : decode cX4_put 42 = .ok (.iload_n 1, 1) := by decide +kernel
theorem dX4_put_43 : decode cX4_put 43 = .ok (.iastore, 1) := by decide +kernel
theorem dX4_put_44 : decode cX4_put 44 = .ok (.aload_n 0, 1) := by decide +kernel
theorem dX4_put_45 : decode cX4_put 45 = .ok (.getfield 24, 3) := by decide +kernel
theorem dX4_put_48 : decode cX4_put 48 = .ok (.aload_n 0, 1) := by decide +kernel
theorem dX4_put_49 : decode cX4_put 49 = .ok (.getfield 88, 3) := by decide +kernel
theorem dX4_put_52 : decode cX4_put 52 = .ok (.iload_n 1, 1) := by decide +kernel
theorem dX4_put_53 : decode cX4_put 53 = .ok (.bipush 10, 2) := by decide +kernel
theorem dX4_put_55 : decode cX4_put 55 = .ok (.if_icmp .ge 7, 3) := by decide +kernel
theorem dX4_put_58 : decode cX4_put 58 = .ok (.iconst 0, 1) := by decide +kernel
theorem dX4_put_59 : decode cX4_put 59 = .ok (.goto 4, 3) := by decide +kernel
theorem dX4_put_62 : decode cX4_put 62 = .ok (.iconst 2, 1) := by decide +kernel
theorem dX4_put_63 : decode cX4_put 63 = .ok (.iastore, 1) := by decide +kernel
theorem dX4_put_64 : decode cX4_put 64 = .ok (.aload_n 0, 1) := by decide +kernel
theorem dX4_put_65 : decode cX4_put 65 = .ok (.getfield 21, 3) := by decide +kernel
theorem dX4_put_68 : decode cX4_put 68 = .ok (.sipush 1900, 3) := by decide +kernel
theorem dX4_put_71 : decode cX4_put 71 = .ok (.aload_n 0, 1) := by decide +kernel
theorem dX4_put_72 : decode cX4_put 72 = .ok (.getfield 88, 3) := by decide +kernel
theorem dX4_put_75 : decode cX4_put 75 = .ok (.imul, 1) := by decide +kernel
theorem dX4_put_76 : decode cX4_put 76 = .ok (.iload_n 2, 1) := by decide +kernel
theorem dX4_put_77 : decode cX4_put 77 = .ok (.bipush 8, 2) := by decide +kernel
theorem dX4_put_79 : decode cX4_put 79 = .ok (.ishr, 1) := by decide +kernel
theorem dX4_put_80 : decode cX4_put 80 = .ok (.i2b, 1) := by decide +kernel
theorem dX4_put_81 : decode cX4_put 81 = .ok (.bastore, 1) := by decide +kernel
theorem dX4_put_82 : decode cX4_put 82 = .ok (.aload_n 0, 1) := by decide +kernel
theorem dX4_put_83 : decode cX4_put 83 = .ok (.getfield 21, 3) := by decide +kernel
theorem dX4_put_86 : decode cX4_put 86 = .ok (.sipush 1900, 3) := by decide +kernel
theorem dX4_put_89 : decode cX4_put 89 = .ok (.aload_n 0, 1) := by decide +kernel
theorem dX4_put_90 : decode cX4_put 90 = .ok (.getfield 88, 3) := by decide +kernel
theorem dX4_put_93 : decode cX4_put 93 = .ok (.imul, 1) := by decide +kernel
theorem dX4_put_94 : decode cX4_put 94 = .ok (.iconst 1, 1) := by decide +kernel
theorem dX4_put_95 : decode cX4_put 95 = .ok (.iadd, 1) := by decide +kernel
theorem dX4_put_96 : decode cX4_put 96 = .ok (.iload_n 2, 1) := by decide +kernel
theorem dX4_put_97 : decode cX4_put 97 = .ok (.i2b, 1) := by decide +kernel
theorem dX4_put_98 : decode cX4_put 98 = .ok (.bastore, 1) := by decide +kernel
theorem dX4_put_99 : decode cX4_put 99 = .ok (.aload_n 0, 1) := by decide +kernel
theorem dX4_put_100 : decode cX4_put 100 = .ok (.dup, 1) := by decide +kernel
theorem dX4_put_101 : decode cX4_put 101 = .ok (.getfield 88, 3) := by decide +kernel
theorem dX4_put_104 : decode cX4_put 104 = .ok (.iconst 1, 1) := by decide +kernel
theorem dX4_put_105 : decode cX4_put 105 = .ok (.iadd, 1) := by decide +kernel
theorem dX4_put_106 : decode cX4_put 106 = .ok (.putfield 88, 3) := by decide +kernel
theorem dX4_put_109 : decode cX4_put 109 = .ok (.aload_n 0, 1) := by decide +kernel
theorem dX4_put_110 : decode cX4_put 110 = .ok (.getfield 88, 3) := by decide +kernel
theorem dX4_put_113 : decode cX4_put 113 = .ok (.ireturn, 1) := by decide +kernel
theorem dX4_together_0 : decode cX4_together 0 = .ok (.iconst 0, 1) := by decide +kernel
theorem dX4_together_1 : decode cX4_together 1 = .ok (.istore_n 1, 1) := by decide +kernel
theorem dX4_together_2 : decode cX4_together 2 = .ok (.iconst 1, 1) := by decide +kernel
theorem dX4_together_3 : decode cX4_together 3 = .ok (.istore_n 2, 1) := by decide +kernel
theorem dX4_together_4 : decode cX4_together 4 = .ok (.iload_n 2, 1) := by decide +kernel
theorem dX4_together_5 : decode cX4_together 5 = .ok (.aload_n 0, 1) := by decide +kernel
theorem dX4_together_6 : decode cX4_together 6 = .ok (.getfield 88, 3) := by decide +kernel
theorem dX4_together_9 : decode cX4_together 9 = .ok (.if_icmp .gt 72, 3) := by decide +kernel
theorem dX4_together_12 : decode cX4_together 12 = .ok (.iload_n 1, 1) := by decide +kernel
theorem dX4_together_13 : decode cX4_together 13 = .ok (.aload_n 0, 1) := by decide +kernel
theorem dX4_together_14 : decode cX4_together 14 = .ok (.getfield 24, 3) := by decide +kernel
theorem dX4_together_17 : decode cX4_together 17 = .ok (.iload_n 2, 1) := by decide +kernel
theorem dX4_together_18 : decode cX4_together 18 = .ok (.iconst 1, 1) := by decide +kernel
theorem dX4_together_19 : decode cX4_together 19 = .ok (.isub, 1) := by decide +kernel
theorem dX4_together_20 : decode cX4_together 20 = .ok (.iaload, 1) := by decide +kernel
theorem dX4_together_21 : decode cX4_together 21 = .ok (.iadd, 1) := by decide +kernel
theorem dX4_together_22 : decode cX4_together 22 = .ok (.istore_n 1, 1) := by decide +kernel
theorem dX4_together_23 : decode cX4_together 23 = .ok (.iconst 2, 1) := by decide +kernel
theorem dX4_together_24 : decode cX4_together 24 = .ok (.istore_n 3, 1) := by decide +kernel
theorem dX4_together_25 : decode cX4_together 25 = .ok (.iload_n 3, 1) := by decide +kernel
theorem dX4_together_26 : decode cX4_together 26 = .ok (.aload_n 0, 1) := by decide +kernel
theorem dX4_together_27 : decode cX4_together 27 = .ok (.getfield 24, 3) := by decide +kernel
theorem dX4_together_30 : decode cX4_together 30 = .ok (.iload_n 2, 1) := by decide +kernel
theorem dX4_together_31 : decode cX4_together 31 = .ok (.iconst 1, 1) := by decide +kernel
theorem dX4_together_32 : decode cX4_together 32 = .ok (.isub, 1) := by decide +kernel
theorem dX4_together_33 : decode cX4_together 33 = .ok (.iaload, 1) := by decide +kernel
theorem dX4_together_34 : decode cX4_together 34 = .ok (.if_icmp .ge 41, 3) := by decide +kernel
theorem dX4_together_37 : decode cX4_together 37 = .ok (.aload_n 0, 1) := by decide +kernel
theorem dX4_together_38 : decode cX4_together 38 = .ok (.getfield 16, 3) := by decide +kernel
theorem dX4_together_41 : decode cX4_together 41 = .ok (.iload_n 2, 1) := by decide +kernel
theorem dX4_together_42 : decode cX4_together 42 = .ok (.iconst 1, 1) := by decide +kernel
theorem dX4_together_43 : decode cX4_together 43 = .ok (.isub, 1) := by decide +kernel
theorem dX4_together_44 : decode cX4_together 44 = .ok (.iaload, 1) := by decide +kernel
theorem dX4_together_45 : decode cX4_together 45 = .ok (.bipush 9, 2) := by decide +kernel
theorem dX4_together_47 : decode cX4_together 47 = .ok (.if_icmp .le 28, 3) := by decide +kernel
theorem dX4_together_50 : decode cX4_together 50 = .ok (.iload_n 1, 1) := by decide +kernel
theorem dX4_together_51 : decode cX4_together 51 = .ok (.aload_n 0, 1) := by decide +kernel
theorem dX4_together_52 : decode cX4_together 52 = .ok (.iload_n 2, 1) := by decide +kernel
theorem dX4_together_53 : decode cX4_together 53 = .ok (.iload_n 3, 1) := by decide +kernel
theorem dX4_together_54 : decode cX4_together 54 = .ok (.invokevirtual 104, 3) := by decide +kernel
theorem dX4_together_57 : decode cX4_together 57 = .ok (.bipush 31, 2) := by decide +kernel
theorem dX4_together_59 : decode cX4_together 59 = .ok (.if_icmp .ne 7, 3) := by decide +kernel
theorem dX4_together_62 : decode cX4_together 62 = .ok (.iconst 1, 1) := by decide +kernel
theorem dX4_together_63 : decode cX4_together 63 = .ok (.goto 4, 3) := by decide +kernel
theorem dX4_together_66 : decode cX4_together 66 = .ok (.iconst 0, 1) := by decide +kernel
theorem dX4_together_67 : decode cX4_together 67 = .ok (.isub, 1) := by decide +kernel
theorem dX4_together_68 : decode cX4_together 68 = .ok (.istore_n 1, 1) := by decide +kernel
theorem dX4_together_69 : decode cX4_together 69 = .ok (.iinc 3 1, 3) := by decide +kernel
theorem dX4_together_72 : decode cX4_together 72 = .ok (.goto (-47), 3) := by decide +kernel
theorem dX4_together_75 : decode cX4_together 75 = .ok (.iinc 2 1, 3) := by decide +kernel
theorem dX4_together_78 : decode cX4_together 78 = .ok (.goto (-74), 3) := by decide +kernel
theorem dX4_together_81 : decode cX4_together 81 = .ok (.iload_n 1, 1) := by decide +kernel
theorem dX4_together_82 : decode cX4_together 82 = .ok (.ireturn, 1) := by decide +kernel
theorem dX4_append_0 : decode cX4_append 0 = .ok (.aload_n 0, 1) := by decide +kernel
theorem dX4_append_1 : decode cX4_append 1 = .ok (.getfield 21, 3) := by decide +kernel
theorem dX4_append_4 : decode cX4_append 4 = .ok (.sipush 1900, 3) := by decide +kernel
theorem dX4_append_7 : decode cX4_append 7 = .ok (.iload_n 1, 1) := by decide +kernel
theorem dX4_append_8 : decode cX4_append 8 = .ok (.iconst 1, 1) := by decide +kernel
theorem dX4_append_9 : decode cX4_append 9 = .ok (.isub, 1) := by decide +kernel
theorem dX4_append_10 : decode cX4_append 10 = .ok (.imul, 1) := by decide +kernel
theorem dX4_append_11 : decode cX4_append 11 = .ok (.aload_n 0, 1) := by decide +kernel
theorem dX4_append_12 : decode cX4_append 12 = .ok (.getfield 24, 3) := by decide +kernel
theorem dX4_append_15 : decode cX4_append 15 = .ok (.iload_n 1, 1) := by decide +kernel
theorem dX4_append_16 : decode cX4_append 16 = .ok (.iconst 1, 1) := by decide +kernel
theorem dX4_append_17 : decode cX4_append 17 = .ok (.isub, 1) := by decide +kernel
theorem dX4_append_18 : decode cX4_append 18 = .ok (.iaload, 1) := by decide +kernel
theorem dX4_append_19 : decode cX4_append 19 = .ok (.iadd, 1) := by decide +kernel
theorem dX4_append_20 : decode cX4_append 20 = .ok (.iload_n 2, 1) := by decide +kernel
theorem dX4_append_21 : decode cX4_append 21 = .ok (.i2b, 1) := by decide +kernel
theorem dX4_append_22 : decode cX4_append 22 = .ok (.bastore, 1) := by decide +kernel
theorem dX4_append_23 : decode cX4_append 23 = .ok (.aload_n 0, 1) := by decide +kernel
theorem dX4_append_24 : decode cX4_append 24 = .ok (.getfield 24, 3) := by decide +kernel
theorem dX4_append_27 : decode cX4_append 27 = .ok (.iload_n 1, 1) := by decide +kernel
theorem dX4_append_28 : decode cX4_append 28 = .ok (.iconst 1, 1) := by decide +kernel
theorem dX4_append_29 : decode cX4_append 29 = .ok (.isub, 1) := by decide +kernel
theorem dX4_append_30 : decode cX4_append 30 = .ok (.dup2, 1) := by decide +kernel
theorem dX4_append_31 : decode cX4_append 31 = .ok (.iaload, 1) := by decide +kernel
theorem dX4_append_32 : decode cX4_append 32 = .ok (.iconst 1, 1) := by decide +kernel
theorem dX4_append_33 : decode cX4_append 33 = .ok (.iadd, 1) := by decide +kernel
theorem dX4_append_34 : decode cX4_append 34 = .ok (.iastore, 1) := by decide +kernel
theorem dX4_append_35 : decode cX4_append 35 = .ok (.return_, 1) := by decide +kernel
theorem dX4_subfield2_0 : decode cX4_subfield2 0 = .ok (.aload_n 0, 1) := by decide +kernel
theorem dX4_subfield2_1 : decode cX4_subfield2 1 = .ok (.iconst 0, 1) := by decide +kernel
theorem dX4_subfield2_2 : decode cX4_subfield2 2 = .ok (.putfield 37, 3) := by decide +kernel
theorem dX4_subfield2_5 : decode cX4_subfield2 5 = .ok (.aload_n 0, 1) := by decide +kernel
theorem dX4_subfield2_6 : decode cX4_subfield2 6 = .ok (.iload_n 1, 1) := by decide +kernel
theorem dX4_subfield2_7 : decode cX4_subfield2 7 = .ok (.invokevirtual 101, 3) := by decide +kernel
theorem dX4_subfield2_10 : decode cX4_subfield2 10 = .ok (.ifCond .eq 24, 3) := by decide +kernel
theorem dX4_subfield2_13 : decode cX4_subfield2 13 = .ok (.iload_n 3, 1) := by decide +kernel
theorem dX4_subfield2_14 : decode cX4_subfield2 14 = .ok (.sipush 255, 3) := by decide +kernel
theorem dX4_subfield2_17 : decode cX4_subfield2 17 = .ok (.iand, 1) := by decide +kernel
theorem dX4_subfield2_18 : decode cX4_subfield2 18 = .ok (.invokestatic 58, 3) := by decide +kernel
theorem dX4_subfield2_21 : decode cX4_subfield2 21 = .ok (.ifCond .ne 13, 3) := by decide +kernel
theorem dX4_subfield2_24 : decode cX4_subfield2 24 = .ok (.aload_n 0, 1) := by decide +kernel
theorem dX4_subfield2_25 : decode cX4_subfield2 25 = .ok (.invokevirtual 110, 3) := by decide +kernel
theorem dX4_subfield2_28 : decode cX4_subfield2 28 = .ok (.sipush 1200, 3) := by decide +kernel
theorem dX4_subfield2_31 : decode cX4_subfield2 31 = .ok (.if_icmp .lt 4, 3) := by decide +kernel
theorem dX4_subfield2_34 : decode cX4_subfield2 34 = .ok (.return_, 1) := by decide +kernel
theorem dX4_subfield2_35 : decode cX4_subfield2 35 = .ok (.aload_n 0, 1) := by decide +kernel
theorem dX4_subfield2_36 : decode cX4_subfield2 36 = .ok (.getfield 16, 3) := by decide +kernel
theorem dX4_subfield2_39 : decode cX4_subfield2 39 = .ok (.iload_n 1, 1) := by decide +kernel
theorem dX4_subfield2_40 : decode cX4_subfield2 40 = .ok (.iconst 1, 1) := by decide +kernel
theorem dX4_subfield2_41 : decode cX4_subfield2 41 = .ok (.isub, 1) := by decide +kernel
theorem dX4_subfield2_42 : decode cX4_subfield2 42 = .ok (.iaload, 1) := by decide +kernel
theorem dX4_subfield2_43 : decode cX4_subfield2 43 = .ok (.bipush 9, 2) := by decide +kernel
theorem dX4_subfield2_45 : decode cX4_subfield2 45 = .ok (.if_icmp .le 101, 3) := by decide +kernel
theorem dX4_subfield2_48 : decode cX4_subfield2 48 = .ok (.iconst (-1), 1) := by decide +kernel
theorem dX4_subfield2_49 : decode cX4_subfield2 49 = .ok (.istore 4, 2) := by decide +kernel
theorem dX4_subfield2_51 : decode cX4_subfield2 51 = .ok (.iconst 2, 1) := by decide +kernel
theorem dX4_subfield2_52 : decode cX4_subfield2 52 = .ok (.istore 5, 2) := by decide +kernel
theorem dX4_subfield2_54 : decode cX4_subfield2 54 = .ok (.iload 5, 2) := by decide +kernel
theorem dX4_subfield2_56 : decode cX4_subfield2 56 = .ok (.aload_n 0, 1) := by decide +kernel
theorem dX4_subfield2_57 : decode cX4_subfield2 57 = .ok (.getfield 24, 3) := by decide +kernel
theorem dX4_subfield2_60 : decode cX4_subfield2 60 = .ok (.iload_n 1, 1) := by decide +kernel
theorem dX4_subfield2_61 : decode cX4_subfield2 61 = .ok (.iconst 1, 1) := by decide +kernel
theorem dX4_subfield2_62 : decode cX4_subfield2 62 = .ok (.isub, 1) := by decide +kernel
theorem dX4_subfield2_63 : decode cX4_subfield2 63 = .ok (.iaload, 1) := by decide +kernel
theorem dX4_subfield2_64 : decode cX4_subfield2 64 = .ok (.if_icmp .ge 37, 3) := by decide +kernel
theorem dX4_subfield2_67 : decode cX4_subfield2 67 = .ok (.aload_n 0, 1) := by decide +kernel
theorem dX4_subfield2_68 : decode cX4_subfield2 68 = .ok (.iload_n 1, 1) := by decide +kernel
theorem dX4_subfield2_69 : decode cX4_subfield2 69 = .ok (.iload 5, 2) := by decide +kernel
theorem dX4_subfield2_71 : decode cX4_subfield2 71 = .ok (.invokevirtual 104, 3) := by decide +kernel
theorem dX4_subfield2_74 : decode cX4_subfield2 74 = .ok (.bipush 31, 2) := by decide +kernel
theorem dX4_subfield2_76 : decode cX4_subfield2 76 = .ok (.if_icmp .ne 15, 3) := by decide +kernel
theorem dX4_subfield2_79 : decode cX4_subfield2 79 = .ok (.aload_n 0, 1) := by decide +kernel
theorem dX4_subfield2_80 : decode cX4_subfield2 80 = .ok (.iload_n 1, 1) := by decide +kernel
theorem dX4_subfield2_81 : decode cX4_subfield2 81 = .ok (.iload 5, 2) := by decide +kernel
theorem dX4_subfield2_83 : decode cX4_subfield2 83 = .ok (.iconst 1, 1) := by decide +kernel
theorem dX4_subfield2_84 : decode cX4_subfield2 84 = .ok (.iadd, 1) := by decide +kernel
theorem dX4_subfield2_85 : decode cX4_subfield2 85 = .ok (.invokevirtual 104, 3) := by decide +kernel
theorem dX4_subfield2_88 : decode cX4_subfield2 88 = .ok (.goto 5, 3) := by decide +kernel
theorem dX4_subfield2_91 : decode cX4_subfield2 91 = .ok (.iload 4, 2) := by decide +kernel
theorem dX4_subfield2_93 : decode cX4_subfield2 93 = .ok (.istore 4, 2) := by decide +kernel
theorem dX4_subfield2_95 : decode cX4_subfield2 95 = .ok (.iinc 5 1, 3) := by decide +kernel
theorem dX4_subfield2_98 : decode cX4_subfield2 98 = .ok (.goto (-44), 3) := by decide +kernel
theorem dX4_subfield2_101 : decode cX4_subfield2 101 = .ok (.iload 4, 2) := by decide +kernel
theorem dX4_subfield2_103 : decode cX4_subfield2 103 = .ok (.iload_n 2, 1) := by decide +kernel
theorem dX4_subfield2_104 : decode cX4_subfield2 104 = .ok (.sipush 255, 3) := by decide +kernel
theorem dX4_subfield2_107 : decode cX4_subfield2 107 = .ok (.iand, 1) := by decide +kernel
theorem dX4_subfield2_108 : decode cX4_subfield2 108 = .ok (.if_icmp .eq 38, 3) := by decide +kernel
theorem dX4_subfield2_111 : decode cX4_subfield2 111 = .ok (.iload_n 2, 1) := by decide +kernel
theorem dX4_subfield2_112 : decode cX4_subfield2 112 = .ok (.sipush 255, 3) := by decide +kernel
theorem dX4_subfield2_115 : decode cX4_subfield2 115 = .ok (.iand, 1) := by decide +kernel
theorem dX4_subfield2_116 : decode cX4_subfield2 116 = .ok (.invokestatic 58, 3) := by decide +kernel
theorem dX4_subfield2_119 : decode cX4_subfield2 119 = .ok (.ifCond .ne 13, 3) := by decide +kernel
theorem dX4_subfield2_122 : decode cX4_subfield2 122 = .ok (.aload_n 0, 1) := by decide +kernel
theorem dX4_subfield2_123 : decode cX4_subfield2 123 = .ok (.invokevirtual 110, 3) := by decide +kernel
theorem dX4_subfield2_126 : decode cX4_subfield2 126 = .ok (.sipush 1198, 3) := by decide +kernel
theorem dX4_subfield2_129 : decode cX4_subfield2 129 = .ok (.if_icmp .le 4, 3) := by decide +kernel
theorem dX4_subfield2_132 : decode cX4_subfield2 132 = .ok (.return_, 1) := by decide +kernel
theorem dX4_subfield2_133 : decode cX4_subfield2 133 = .ok (.aload_n 0, 1) := by decide +kernel
theorem dX4_subfield2_134 : decode cX4_subfield2 134 = .ok (.iload_n 1, 1) := by decide +kernel
theorem dX4_subfield2_135 : decode cX4_subfield2 135 = .ok (.bipush 31, 2) := by decide +kernel
theorem dX4_subfield2_137 : decode cX4_subfield2 137 = .ok (.invokevirtual 114, 3) := by decide +kernel
theorem dX4_subfield2_140 : decode cX4_subfield2 140 = .ok (.aload_n 0, 1) := by decide +kernel
theorem dX4_subfield2_141 : decode cX4_subfield2 141 = .ok (.iload_n 1, 1) := by decide +kernel
theorem dX4_subfield2_142 : decode cX4_subfield2 142 = .ok (.iload_n 2, 1) := by decide +kernel
theorem dX4_subfield2_143 : decode cX4_subfield2 143 = .ok (.invokevirtual 114, 3) := by decide +kernel
theorem dX4_subfield2_146 : decode cX4_subfield2 146 = .ok (.aload_n 0, 1) := by decide +kernel
theorem dX4_subfield2_147 : decode cX4_subfield2 147 = .ok (.iload_n 1, 1) := by decide +kernel
theorem dX4_subfield2_148 : decode cX4_subfield2 148 = .ok (.iload_n 3, 1) := by decide +kernel
theorem dX4_subfield2_149 : decode cX4_subfield2 149 = .ok (.invokevirtual 114, 3) := by decide +kernel
theorem dX4_subfield2_152 : decode cX4_subfield2 152 = .ok (.return_, 1) := by decide +kernel
theorem dX4_say_0 : decode cX4_say 0 = .ok (.aload_n 0, 1) := by decide +kernel
theorem dX4_say_1 : decode cX4_say 1 = .ok (.getfield 34, 3) := by decide +kernel
theorem dX4_say_4 : decode cX4_say 4 = .ok (.aload_n 0, 1) := by decide +kernel
theorem dX4_say_5 : decode cX4_say 5 = .ok (.getfield 118, 3) := by decide +kernel
theorem dX4_say_8 : decode cX4_say 8 = .ok (.iload_n 1, 1) := by decide +kernel
theorem dX4_say_9 : decode cX4_say 9 = .ok (.i2b, 1) := by decide +kernel
theorem dX4_say_10 : decode cX4_say 10 = .ok (.bastore, 1) := by decide +kernel
theorem dX4_say_11 : decode cX4_say 11 = .ok (.aload_n 0, 1) := by decide +kernel
theorem dX4_say_12 : decode cX4_say 12 = .ok (.dup, 1) := by decide +kernel
theorem dX4_say_13 : decode cX4_say 13 = .ok (.getfield 118, 3) := by decide +kernel
theorem dX4_say_16 : decode cX4_say 16 = .ok (.iconst 1, 1) := by decide +kernel
theorem dX4_say_17 : decode cX4_say 17 = .ok (.iadd, 1) := by decide +kernel
theorem dX4_say_18 : decode cX4_say 18 = .ok (.putfield 118, 3) := by decide +kernel
theorem dX4_say_21 : decode cX4_say 21 = .ok (.return_, 1) := by decide +kernel
theorem dX4_sayNumber_0 : decode cX4_sayNumber 0 = .ok (.iconst 1, 1) := by decide +kernel
theorem dX4_sayNumber_1 : decode cX4_sayNumber 1 = .ok (.istore_n 3, 1) := by decide +kernel
theorem dX4_sayNumber_2 : decode cX4_sayNumber 2 = .ok (.iconst 1, 1) := by decide +kernel
theorem dX4_sayNumber_3 : decode cX4_sayNumber 3 = .ok (.istore 4, 2) := by decide +kernel
theorem dX4_sayNumber_5 : decode cX4_sayNumber 5 = .ok (.iload 4, 2) := by decide +kernel
theorem dX4_sayNumber_7 : decode cX4_sayNumber 7 = .ok (.iload_n 2, 1) := by decide +kernel
theorem dX4_sayNumber_8 : decode cX4_sayNumber 8 = .ok (.if_icmp .ge 14, 3) := by decide +kernel
theorem dX4_sayNumber_11 : decode cX4_sayNumber 11 = .ok (.bipush 10, 2) := by decide +kernel
theorem dX4_sayNumber_13 : decode cX4_sayNumber 13 = .ok (.iload_n 3, 1) := by decide +kernel
theorem dX4_sayNumber_14 : decode cX4_sayNumber 14 = .ok (.imul, 1) := by decide +kernel
theorem dX4_sayNumber_15 : decode cX4_sayNumber 15 = .ok (.istore_n 3, 1) := by decide +kernel
theorem dX4_sayNumber_16 : decode cX4_sayNumber 16 = .ok (.iinc 4 1, 3) := by decide +kernel
theorem dX4_sayNumber_19 : decode cX4_sayNumber 19 = .ok (.goto (-14), 3) := by decide +kernel
theorem dX4_sayNumber_22 : decode cX4_sayNumber 22 = .ok (.iload_n 3, 1) := by decide +kernel
theorem dX4_sayNumber_23 : decode cX4_sayNumber 23 = .ok (.istore 4, 2) := by decide +kernel
theorem dX4_sayNumber_25 : decode cX4_sayNumber 25 = .ok (.iload 4, 2) := by decide +kernel
theorem dX4_sayNumber_27 : decode cX4_sayNumber 27 = .ok (.ifCond .le 27, 3) := by decide +kernel
theorem dX4_sayNumber_30 : decode cX4_sayNumber 30 = .ok (.aload_n 0, 1) := by decide +kernel
theorem dX4_sayNumber_31 : decode cX4_sayNumber 31 = .ok (.bipush 48, 2) := by decide +kernel
theorem dX4_sayNumber_33 : decode cX4_sayNumber 33 = .ok (.iload_n 1, 1) := by decide +kernel
theorem dX4_sayNumber_34 : decode cX4_sayNumber 34 = .ok (.iload 4, 2) := by decide +kernel
theorem dX4_sayNumber_36 : decode cX4_sayNumber 36 = .ok (.idiv, 1) := by decide +kernel
theorem dX4_sayNumber_37 : decode cX4_sayNumber 37 = .ok (.bipush 10, 2) := by decide +kernel
theorem dX4_sayNumber_39 : decode cX4_sayNumber 39 = .ok (.irem, 1) := by decide +kernel
theorem dX4_sayNumber_40 : decode cX4_sayNumber 40 = .ok (.iadd, 1) := by decide +kernel
theorem dX4_sayNumber_41 : decode cX4_sayNumber 41 = .ok (.invokevirtual 121, 3) := by decide +kernel
theorem dX4_sayNumber_44 : decode cX4_sayNumber 44 = .ok (.iload 4, 2) := by decide +kernel
theorem dX4_sayNumber_46 : decode cX4_sayNumber 46 = .ok (.bipush 10, 2) := by decide +kernel
theorem dX4_sayNumber_48 : decode cX4_sayNumber 48 = .ok (.idiv, 1) := by decide +kernel
theorem dX4_sayNumber_49 : decode cX4_sayNumber 49 = .ok (.istore 4, 2) := by decide +kernel
theorem dX4_sayNumber_51 : decode cX4_sayNumber 51 = .ok (.goto (-26), 3) := by decide +kernel
theorem dX4_sayNumber_54 : decode cX4_sayNumber 54 = .ok (.return_, 1) := by decide +kernel
theorem dX4_write_0 : decode cX4_write 0 = .ok (.aload_n 0, 1) := by decide +kernel
theorem dX4_write_1 : decode cX4_write 1 = .ok (.iconst 0, 1) := by decide +kernel
theorem dX4_write_2 : decode cX4_write 2 = .ok (.putfield 37, 3) := by decide +kernel
theorem dX4_write_5 : decode cX4_write 5 = .ok (.aload_n 0, 1) := by decide +kernel
theorem dX4_write_6 : decode cX4_write 6 = .ok (.getfield 91, 3) := by decide +kernel
theorem dX4_write_9 : decode cX4_write 9 = .ok (.istore_n 1, 1) := by decide +kernel
theorem dX4_write_10 : decode cX4_write 10 = .ok (.bipush 25, 2) := by decide +kernel
theorem dX4_write_12 : decode cX4_write 12 = .ok (.bipush 12, 2) := by decide +kernel
theorem dX4_write_14 : decode cX4_write 14 = .ok (.aload_n 0, 1) := by decide +kernel
theorem dX4_write_15 : decode cX4_write 15 = .ok (.getfield 88, 3) := by decide +kernel
theorem dX4_write_18 : decode cX4_write 18 = .ok (.imul, 1) := by decide +kernel
theorem dX4_write_19 : decode cX4_write 19 = .ok (.iadd, 1) := by decide +kernel
theorem dX4_write_20 : decode cX4_write 20 = .ok (.istore_n 2, 1) := by decide +kernel
theorem dX4_write_21 : decode cX4_write 21 = .ok (.iload_n 2, 1) := by decide +kernel
theorem dX4_write_22 : decode cX4_write 22 = .ok (.iconst 1, 1) := by decide +kernel
theorem dX4_write_23 : decode cX4_write 23 = .ok (.iadd, 1) := by decide +kernel
theorem dX4_write_24 : decode cX4_write 24 = .ok (.istore_n 3, 1) := by decide +kernel
theorem dX4_write_25 : decode cX4_write 25 = .ok (.iconst 1, 1) := by decide +kernel
theorem dX4_write_26 : decode cX4_write 26 = .ok (.istore 4, 2) := by decide +kernel
theorem dX4_write_28 : decode cX4_write 28 = .ok (.iload 4, 2) := by decide +kernel
theorem dX4_write_30 : decode cX4_write 30 = .ok (.aload_n 0, 1) := by decide +kernel
theorem dX4_write_31 : decode cX4_write 31 = .ok (.getfield 88, 3) := by decide +kernel
theorem dX4_write_34 : decode cX4_write 34 = .ok (.if_icmp .gt 80, 3) := by decide +kernel
theorem dX4_write_37 : decode cX4_write 37 = .ok (.aload_n 0, 1) := by decide +kernel
theorem dX4_write_38 : decode cX4_write 38 = .ok (.getfield 91, 3) := by decide +kernel
theorem dX4_write_41 : decode cX4_write 41 = .ok (.ifCond .eq 73, 3) := by decide +kernel
theorem dX4_write_44 : decode cX4_write 44 = .ok (.iload_n 1, 1) := by decide +kernel
theorem dX4_write_45 : decode cX4_write 45 = .ok (.ifCond .eq 47, 3) := by decide +kernel
theorem dX4_write_48 : decode cX4_write 48 = .ok (.aload_n 0, 1) := by decide +kernel
theorem dX4_write_49 : decode cX4_write 49 = .ok (.getfield 16, 3) := by decide +kernel
theorem dX4_write_52 : decode cX4_write 52 = .ok (.iload 4, 2) := by decide +kernel
theorem dX4_write_54 : decode cX4_write 54 = .ok (.iconst 1, 1) := by decide +kernel
theorem dX4_write_55 : decode cX4_write 55 = .ok (.isub, 1) := by decide +kernel
theorem dX4_write_56 : decode cX4_write 56 = .ok (.iaload, 1) := by decide +kernel
theorem dX4_write_57 : decode cX4_write 57 = .ok (.bipush 10, 2) := by decide +kernel
theorem dX4_write_59 : decode cX4_write 59 = .ok (.if_icmp .lt 29, 3) := by decide +kernel
theorem dX4_write_62 : decode cX4_write 62 = .ok (.aload_n 0, 1) := by decide +kernel
theorem dX4_write_63 : decode cX4_write 63 = .ok (.iload 4, 2) := by decide +kernel
theorem dX4_write_65 : decode cX4_write 65 = .ok (.iconst 0, 1) := by decide +kernel
theorem dX4_write_66 : decode cX4_write 66 = .ok (.invokevirtual 104, 3) := by decide +kernel
theorem dX4_write_69 : decode cX4_write 69 = .ok (.invokestatic 58, 3) := by decide +kernel
theorem dX4_write_72 : decode cX4_write 72 = .ok (.ifCond .ne 20, 3) := by decide +kernel
theorem dX4_write_75 : decode cX4_write 75 = .ok (.aload_n 0, 1) := by decide +kernel
theorem dX4_write_76 : decode cX4_write 76 = .ok (.iload 4, 2) := by decide +kernel
theorem dX4_write_78 : decode cX4_write 78 = .ok (.iconst 1, 1) := by decide +kernel
theorem dX4_write_79 : decode cX4_write 79 = .ok (.invokevirtual 104, 3) := by decide +kernel
theorem dX4_write_82 : decode cX4_write 82 = .ok (.invokestatic 58, 3) := by decide +kernel
theorem dX4_write_85 : decode cX4_write 85 = .ok (.ifCond .ne 7, 3) := by decide +kernel
theorem dX4_write_88 : decode cX4_write 88 = .ok (.iconst 1, 1) := by decide +kernel
theorem dX4_write_89 : decode cX4_write 89 = .ok (.goto 4, 3) := by decide +kernel
theorem dX4_write_92 : decode cX4_write 92 = .ok (.iconst 0, 1) := by decide +kernel
theorem dX4_write_93 : decode cX4_write 93 = .ok (.istore_n 1, 1) := by decide +kernel
theorem dX4_write_94 : decode cX4_write 94 = .ok (.iload_n 3, 1) := by decide +kernel
theorem dX4_write_95 : decode cX4_write 95 = .ok (.aload_n 0, 1) := by decide +kernel
theorem dX4_write_96 : decode cX4_write 96 = .ok (.getfield 24, 3) := by decide +kernel
theorem dX4_write_99 : decode cX4_write 99 = .ok (.iload 4, 2) := by decide +kernel
theorem dX4_write_101 : decode cX4_write 101 = .ok (.iconst 1, 1) := by decide +kernel
theorem dX4_write_102 : decode cX4_write 102 = .ok (.isub, 1) := by decide +kernel
theorem dX4_write_103 : decode cX4_write 103 = .ok (.iaload, 1) := by decide +kernel
theorem dX4_write_104 : decode cX4_write 104 = .ok (.iconst 1, 1) := by decide +kernel
theorem dX4_write_105 : decode cX4_write 105 = .ok (.iadd, 1) := by decide +kernel
theorem dX4_write_106 : decode cX4_write 106 = .ok (.iadd, 1) := by decide +kernel
theorem dX4_write_107 : decode cX4_write 107 = .ok (.istore_n 3, 1) := by decide +kernel
theorem dX4_write_108 : decode cX4_write 108 = .ok (.iinc 4 1, 3) := by decide +kernel
theorem dX4_write_111 : decode cX4_write 111 = .ok (.goto (-83), 3) := by decide +kernel
theorem dX4_write_114 : decode cX4_write 114 = .ok (.iload_n 1, 1) := by decide +kernel
theorem dX4_write_115 : decode cX4_write 115 = .ok (.ifCond .ne 5, 3) := by decide +kernel
theorem dX4_write_118 : decode cX4_write 118 = .ok (.iconst (-1), 1) := by decide +kernel
theorem dX4_write_119 : decode cX4_write 119 = .ok (.ireturn, 1) := by decide +kernel
theorem dX4_write_120 : decode cX4_write 120 = .ok (.aload_n 0, 1) := by decide +kernel
theorem dX4_write_121 : decode cX4_write 121 = .ok (.iconst 0, 1) := by decide +kernel
theorem dX4_write_122 : decode cX4_write 122 = .ok (.putfield 118, 3) := by decide +kernel
theorem dX4_write_125 : decode cX4_write 125 = .ok (.aload_n 0, 1) := by decide +kernel
theorem dX4_write_126 : decode cX4_write 126 = .ok (.iload_n 3, 1) := by decide +kernel
theorem dX4_write_127 : decode cX4_write 127 = .ok (.iconst 5, 1) := by decide +kernel
theorem dX4_write_128 : decode cX4_write 128 = .ok (.invokevirtual 125, 3) := by decide +kernel
theorem dX4_write_131 : decode cX4_write 131 = .ok (.iconst 5, 1) := by decide +kernel
theorem dX4_write_132 : decode cX4_write 132 = .ok (.istore 4, 2) := by decide +kernel
theorem dX4_write_134 : decode cX4_write 134 = .ok (.iload 4, 2) := by decide +kernel
theorem dX4_write_136 : decode cX4_write 136 = .ok (.bipush 24, 2) := by decide +kernel
theorem dX4_write_138 : decode cX4_write 138 = .ok (.if_icmp .ge 90, 3) := by decide +kernel
theorem dX4_write_141 : decode cX4_write 141 = .ok (.iload 4, 2) := by decide +kernel
theorem dX4_write_143 : decode cX4_write 143 = .ok (.bipush 12, 2) := by decide +kernel
theorem dX4_write_145 : decode cX4_write 145 = .ok (.if_icmp .ne 9, 3) := by decide +kernel
theorem dX4_write_148 : decode cX4_write 148 = .ok (.aload_n 0, 1) := by decide +kernel
theorem dX4_write_149 : decode cX4_write 149 = .ok (.iload_n 2, 1) := by decide +kernel
theorem dX4_write_150 : decode cX4_write 150 = .ok (.iconst 5, 1) := by decide +kernel
theorem dX4_write_151 : decode cX4_write 151 = .ok (.invokevirtual 125, 3) := by decide +kernel
theorem dX4_write_154 : decode cX4_write 154 = .ok (.iload 4, 2) := by decide +kernel
theorem dX4_write_156 : decode cX4_write 156 = .ok (.bipush 12, 2) := by decide +kernel
theorem dX4_write_158 : decode cX4_write 158 = .ok (.if_icmp .lt 10, 3) := by decide +kernel
theorem dX4_write_161 : decode cX4_write 161 = .ok (.iload 4, 2) := by decide +kernel
theorem dX4_write_163 : decode cX4_write 163 = .ok (.bipush 16, 2) := by decide +kernel
theorem dX4_write_165 : decode cX4_write 165 = .ok (.if_icmp .le 57, 3) := by decide +kernel
theorem dX4_write_168 : decode cX4_write 168 = .ok (.aload_n 0, 1) := by decide +kernel
theorem dX4_write_169 : decode cX4_write 169 = .ok (.iload 4, 2) := by decide +kernel
theorem dX4_write_171 : decode cX4_write 171 = .ok (.bipush 10, 2) := by decide +kernel
theorem dX4_write_173 : decode cX4_write 173 = .ok (.if_icmp .eq 10, 3) := by decide +kernel
theorem dX4_write_176 : decode cX4_write 176 = .ok (.iload 4, 2) := by decide +kernel
theorem dX4_write_178 : decode cX4_write 178 = .ok (.bipush 11, 2) := by decide +kernel
theorem dX4_write_180 : decode cX4_write 180 = .ok (.if_icmp .ne 8, 3) := by decide +kernel
theorem dX4_write_183 : decode cX4_write 183 = .ok (.bipush 50, 2) := by decide +kernel
theorem dX4_write_185 : decode cX4_write 185 = .ok (.goto 34, 3) := by decide +kernel
theorem dX4_write_188 : decode cX4_write 188 = .ok (.iload 4, 2) := by decide +kernel
theorem dX4_write_190 : decode cX4_write 190 = .ok (.bipush 20, 2) := by decide +kernel
theorem dX4_write_192 : decode cX4_write 192 = .ok (.if_icmp .ne 8, 3) := by decide +kernel
theorem dX4_write_195 : decode cX4_write 195 = .ok (.bipush 52, 2) := by decide +kernel
theorem dX4_write_197 : decode cX4_write 197 = .ok (.goto 22, 3) := by decide +kernel
theorem dX4_write_200 : decode cX4_write 200 = .ok (.iload 4, 2) := by decide +kernel
theorem dX4_write_202 : decode cX4_write 202 = .ok (.bipush 21, 2) := by decide +kernel
theorem dX4_write_204 : decode cX4_write 204 = .ok (.if_icmp .ne 8, 3) := by decide +kernel
theorem dX4_write_207 : decode cX4_write 207 = .ok (.bipush 53, 2) := by decide +kernel
theorem dX4_write_209 : decode cX4_write 209 = .ok (.goto 10, 3) := by decide +kernel
theorem dX4_write_212 : decode cX4_write 212 = .ok (.aload_n 0, 1) := by decide +kernel
theorem dX4_write_213 : decode cX4_write 213 = .ok (.getfield 13, 3) := by decide +kernel
theorem dX4_write_216 : decode cX4_write 216 = .ok (.iload 4, 2) := by decide +kernel
theorem dX4_write_218 : decode cX4_write 218 = .ok (.baload, 1) := by decide +kernel
theorem dX4_write_219 : decode cX4_write 219 = .ok (.invokevirtual 121, 3) := by decide +kernel
theorem dX4_write_222 : decode cX4_write 222 = .ok (.iinc 4 1, 3) := by decide +kernel
theorem dX4_write_225 : decode cX4_write 225 = .ok (.goto (-91), 3) := by decide +kernel
theorem dX4_write_228 : decode cX4_write 228 = .ok (.iconst 0, 1) := by decide +kernel
theorem dX4_write_229 : decode cX4_write 229 = .ok (.istore 4, 2) := by decide +kernel
theorem dX4_write_231 : decode cX4_write 231 = .ok (.iconst 1, 1) := by decide +kernel
theorem dX4_write_232 : decode cX4_write 232 = .ok (.istore 5, 2) := by decide +kernel
theorem dX4_write_234 : decode cX4_write 234 = .ok (.iload 5, 2) := by decide +kernel
theorem dX4_write_236 : decode cX4_write 236 = .ok (.aload_n 0, 1) := by decide +kernel
theorem dX4_write_237 : decode cX4_write 237 = .ok (.getfield 88, 3) := by decide +kernel
theorem dX4_write_240 : decode cX4_write 240 = .ok (.if_icmp .gt 62, 3) := by decide +kernel
theorem dX4_write_243 : decode cX4_write 243 = .ok (.aload_n 0, 1) := by decide +kernel
theorem dX4_write_244 : decode cX4_write 244 = .ok (.aload_n 0, 1) := by decide +kernel
theorem dX4_write_245 : decode cX4_write 245 = .ok (.getfield 16, 3) := by decide +kernel
theorem dX4_write_248 : decode cX4_write 248 = .ok (.iload 5, 2) := by decide +kernel
theorem dX4_write_250 : decode cX4_write 250 = .ok (.iconst 1, 1) := by decide +kernel
theorem dX4_write_251 : decode cX4_write 251 = .ok (.isub, 1) := by decide +kernel
theorem dX4_write_252 : decode cX4_write 252 = .ok (.iaload, 1) := by decide +kernel
theorem dX4_write_253 : decode cX4_write 253 = .ok (.iconst 3, 1) := by decide +kernel
theorem dX4_write_254 : decode cX4_write 254 = .ok (.invokevirtual 125, 3) := by decide +kernel
theorem dX4_write_257 : decode cX4_write 257 = .ok (.aload_n 0, 1) := by decide +kernel
theorem dX4_write_258 : decode cX4_write 258 = .ok (.aload_n 0, 1) := by decide +kernel
theorem dX4_write_259 : decode cX4_write 259 = .ok (.getfield 24, 3) := by decide +kernel
theorem dX4_write_262 : decode cX4_write 262 = .ok (.iload 5, 2) := by decide +kernel
theorem dX4_write_264 : decode cX4_write 264 = .ok (.iconst 1, 1) := by decide +kernel
theorem dX4_write_265 : decode cX4_write 265 = .ok (.isub, 1) := by decide +kernel
theorem dX4_write_266 : decode cX4_write 266 = .ok (.iaload, 1) := by decide +kernel
theorem dX4_write_267 : decode cX4_write 267 = .ok (.iconst 1, 1) := by decide +kernel
theorem dX4_write_268 : decode cX4_write 268 = .ok (.iadd, 1) := by decide +kernel
theorem dX4_write_269 : decode cX4_write 269 = .ok (.iconst 4, 1) := by decide +kernel
theorem dX4_write_270 : decode cX4_write 270 = .ok (.invokevirtual 125, 3) := by decide +kernel
theorem dX4_write_273 : decode cX4_write 273 = .ok (.aload_n 0, 1) := by decide +kernel
theorem dX4_write_274 : decode cX4_write 274 = .ok (.iload 4, 2) := by decide +kernel
theorem dX4_write_276 : decode cX4_write 276 = .ok (.iconst 5, 1) := by decide +kernel
theorem dX4_write_277 : decode cX4_write 277 = .ok (.invokevirtual 125, 3) := by decide +kernel
theorem dX4_write_280 : decode cX4_write 280 = .ok (.iload 4, 2) := by decide +kernel
theorem dX4_write_282 : decode cX4_write 282 = .ok (.aload_n 0, 1) := by decide +kernel
theorem dX4_write_283 : decode cX4_write 283 = .ok (.getfield 24, 3) := by decide +kernel
theorem dX4_write_286 : decode cX4_write 286 = .ok (.iload 5, 2) := by decide +kernel
theorem dX4_write_288 : decode cX4_write 288 = .ok (.iconst 1, 1) := by decide +kernel
theorem dX4_write_289 : decode cX4_write 289 = .ok (.isub, 1) := by decide +kernel
theorem dX4_write_290 : decode cX4_write 290 = .ok (.iaload, 1) := by decide +kernel
theorem dX4_write_291 : decode cX4_write 291 = .ok (.iconst 1, 1) := by decide +kernel
theorem dX4_write_292 : decode cX4_write 292 = .ok (.iadd, 1) := by decide +kernel
theorem dX4_write_293 : decode cX4_write 293 = .ok (.iadd, 1) := by decide +kernel
theorem dX4_write_294 : decode cX4_write 294 = .ok (.istore 4, 2) := by decide +kernel
theorem dX4_write_296 : decode cX4_write 296 = .ok (.iinc 5 1, 3) := by decide +kernel
theorem dX4_write_299 : decode cX4_write 299 = .ok (.goto (-65), 3) := by decide +kernel
theorem dX4_write_302 : decode cX4_write 302 = .ok (.aload_n 0, 1) := by decide +kernel
theorem dX4_write_303 : decode cX4_write 303 = .ok (.bipush 30, 2) := by decide +kernel
theorem dX4_write_305 : decode cX4_write 305 = .ok (.invokevirtual 121, 3) := by decide +kernel
theorem dX4_write_308 : decode cX4_write 308 = .ok (.iconst 1, 1) := by decide +kernel
theorem dX4_write_309 : decode cX4_write 309 = .ok (.istore 5, 2) := by decide +kernel
theorem dX4_write_311 : decode cX4_write 311 = .ok (.iload 5, 2) := by decide +kernel
theorem dX4_write_313 : decode cX4_write 313 = .ok (.aload_n 0, 1) := by decide +kernel
theorem dX4_write_314 : decode cX4_write 314 = .ok (.getfield 88, 3) := by decide +kernel
theorem dX4_write_317 : decode cX4_write 317 = .ok (.if_icmp .gt 50, 3) := by decide +kernel
theorem dX4_write_320 : decode cX4_write 320 = .ok (.iconst 0, 1) := by decide +kernel
theorem dX4_write_321 : decode cX4_write 321 = .ok (.istore 6, 2) := by decide +kernel
theorem dX4_write_323 : decode cX4_write 323 = .ok (.iload 6, 2) := by decide +kernel
theorem dX4_write_325 : decode cX4_write 325 = .ok (.aload_n 0, 1) := by decide +kernel
theorem dX4_write_326 : decode cX4_write 326 = .ok (.getfield 24, 3) := by decide +kernel
theorem dX4_write_329 : decode cX4_write 329 = .ok (.iload 5, 2) := by decide +kernel
theorem dX4_write_331 : decode cX4_write 331 = .ok (.iconst 1, 1) := by decide +kernel
theorem dX4_write_332 : decode cX4_write 332 = .ok (.isub, 1) := by decide +kernel
theorem dX4_write_333 : decode cX4_write 333 = .ok (.iaload, 1) := by decide +kernel
theorem dX4_write_334 : decode cX4_write 334 = .ok (.if_icmp .ge 21, 3) := by decide +kernel
theorem dX4_write_337 : decode cX4_write 337 = .ok (.aload_n 0, 1) := by decide +kernel
theorem dX4_write_338 : decode cX4_write 338 = .ok (.aload_n 0, 1) := by decide +kernel
theorem dX4_write_339 : decode cX4_write 339 = .ok (.iload 5, 2) := by decide +kernel
theorem dX4_write_341 : decode cX4_write 341 = .ok (.iload 6, 2) := by decide +kernel
theorem dX4_write_343 : decode cX4_write 343 = .ok (.invokevirtual 104, 3) := by decide +kernel
theorem dX4_write_346 : decode cX4_write 346 = .ok (.invokevirtual 121, 3) := by decide +kernel
theorem dX4_write_349 : decode cX4_write 349 = .ok (.iinc 6 1, 3) := by decide +kernel
theorem dX4_write_352 : decode cX4_write 352 = .ok (.goto (-29), 3) := by decide +kernel
theorem dX4_write_355 : decode cX4_write 355 = .ok (.aload_n 0, 1) := by decide +kernel
theorem dX4_write_356 : decode cX4_write 356 = .ok (.bipush 30, 2) := by decide +kernel
theorem dX4_write_358 : decode cX4_write 358 = .ok (.invokevirtual 121, 3) := by decide +kernel
theorem dX4_write_361 : decode cX4_write 361 = .ok (.iinc 5 1, 3) := by decide +kernel
theorem dX4_write_364 : decode cX4_write 364 = .ok (.goto (-53), 3) := by decide +kernel
theorem dX4_write_367 : decode cX4_write 367 = .ok (.aload_n 0, 1) := by decide +kernel
theorem dX4_write_368 : decode cX4_write 368 = .ok (.bipush 29, 2) := by decide +kernel
theorem dX4_write_370 : decode cX4_write 370 = .ok (.invokevirtual 121, 3) := by decide +kernel
theorem dX4_write_373 : decode cX4_write 373 = .ok (.aload_n 0, 1) := by decide +kernel
theorem dX4_write_374 : decode cX4_write 374 = .ok (.getfield 118, 3) := by decide +kernel
theorem dX4_write_377 : decode cX4_write 377 = .ok (.ireturn, 1) := by decide +kernel
theorem dX4_octet_0 : decode cX4_octet 0 = .ok (.aload_n 0, 1) := by decide +kernel
theorem dX4_octet_1 : decode cX4_octet 1 = .ok (.iconst 0, 1) := by decide +kernel
theorem dX4_octet_2 : decode cX4_octet 2 = .ok (.putfield 37, 3) := by decide +kernel
theorem dX4_octet_5 : decode cX4_octet 5 = .ok (.iload_n 1, 1) := by decide +kernel
theorem dX4_octet_6 : decode cX4_octet 6 = .ok (.ifCond .lt 11, 3) := by decide +kernel
theorem dX4_octet_9 : decode cX4_octet 9 = .ok (.iload_n 1, 1) := by decide +kernel
theorem dX4_octet_10 : decode cX4_octet 10 = .ok (.aload_n 0, 1) := by decide +kernel
theorem dX4_octet_11 : decode cX4_octet 11 = .ok (.getfield 118, 3) := by decide +kernel
theorem dX4_octet_14 : decode cX4_octet 14 = .ok (.if_icmp .lt 10, 3) := by decide +kernel
theorem dX4_octet_17 : decode cX4_octet 17 = .ok (.aload_n 0, 1) := by decide +kernel
theorem dX4_octet_18 : decode cX4_octet 18 = .ok (.iconst 1, 1) := by decide +kernel
theorem dX4_octet_19 : decode cX4_octet 19 = .ok (.putfield 37, 3) := by decide +kernel
theorem dX4_octet_22 : decode cX4_octet 22 = .ok (.iconst 0, 1) := by decide +kernel
theorem dX4_octet_23 : decode cX4_octet 23 = .ok (.ireturn, 1) := by decide +kernel
theorem dX4_octet_24 : decode cX4_octet 24 = .ok (.aload_n 0, 1) := by decide +kernel
theorem dX4_octet_25 : decode cX4_octet 25 = .ok (.getfield 34, 3) := by decide +kernel
theorem dX4_octet_28 : decode cX4_octet 28 = .ok (.iload_n 1, 1) := by decide +kernel
theorem dX4_octet_29 : decode cX4_octet 29 = .ok (.baload, 1) := by decide +kernel
theorem dX4_octet_30 : decode cX4_octet 30 = .ok (.ireturn, 1) := by decide +kernel
theorem dJx00060_init_a7421_0 : decode cJx00060_init_a7421 0 = .ok (.aload_n 0, 1) := by decide +kernel
theorem dJx00060_init_a7421_1 : decode cJx00060_init_a7421 1 = .ok (.aload_n 1, 1) := by decide +kernel
theorem dJx00060_init_a7421_2 : decode cJx00060_init_a7421 2 = .ok (.invokespecial 7, 3) := by decide +kernel
theorem dJx00060_init_a7421_5 : decode cJx00060_init_a7421 5 = .ok (.return_, 1) := by decide +kernel
theorem dJ9_max_7cf53_0 : decode cJ9_max_7cf53 0 = .ok (.iload_n 0, 1) := by decide +kernel
theorem dJ9_max_7cf53_1 : decode cJ9_max_7cf53 1 = .ok (.iload_n 1, 1) := by decide +kernel
theorem dJ9_max_7cf53_2 : decode cJ9_max_7cf53 2 = .ok (.if_icmp .lt 7, 3) := by decide +kernel
theorem dJ9_max_7cf53_5 : decode cJ9_max_7cf53 5 = .ok (.iload_n 0, 1) := by decide +kernel
theorem dJ9_max_7cf53_6 : decode cJ9_max_7cf53 6 = .ok (.goto 4, 3) := by decide +kernel
theorem dJ9_max_7cf53_9 : decode cJ9_max_7cf53 9 = .ok (.iload_n 1, 1) := by decide +kernel
theorem dJ9_max_7cf53_10 : decode cJ9_max_7cf53 10 = .ok (.ireturn, 1) := by decide +kernel
theorem dJ9_min_7cf53_0 : decode cJ9_min_7cf53 0 = .ok (.iload_n 0, 1) := by decide +kernel
theorem dJ9_min_7cf53_1 : decode cJ9_min_7cf53 1 = .ok (.iload_n 1, 1) := by decide +kernel
theorem dJ9_min_7cf53_2 : decode cJ9_min_7cf53 2 = .ok (.if_icmp .gt 7, 3) := by decide +kernel
theorem dJ9_min_7cf53_5 : decode cJ9_min_7cf53 5 = .ok (.iload_n 0, 1) := by decide +kernel
theorem dJ9_min_7cf53_6 : decode cJ9_min_7cf53 6 = .ok (.goto 4, 3) := by decide +kernel
theorem dJ9_min_7cf53_9 : decode cJ9_min_7cf53 9 = .ok (.iload_n 1, 1) := by decide +kernel
theorem dJ9_min_7cf53_10 : decode cJ9_min_7cf53 10 = .ok (.ireturn, 1) := by decide +kernel
theorem dJ7_fill_031fb_0 : decode cJ7_fill_031fb 0 = .ok (.iconst 0, 1) := by decide +kernel
theorem dJ7_fill_031fb_1 : decode cJ7_fill_031fb 1 = .ok (.istore_n 2, 1) := by decide +kernel
theorem dJ7_fill_031fb_2 : decode cJ7_fill_031fb 2 = .ok (.aload_n 0, 1) := by decide +kernel
theorem dJ7_fill_031fb_3 : decode cJ7_fill_031fb 3 = .ok (.arraylength, 1) := by decide +kernel
theorem dJ7_fill_031fb_4 : decode cJ7_fill_031fb 4 = .ok (.istore_n 3, 1) := by decide +kernel
theorem dJ7_fill_031fb_5 : decode cJ7_fill_031fb 5 = .ok (.iload_n 2, 1) := by decide +kernel
theorem dJ7_fill_031fb_6 : decode cJ7_fill_031fb 6 = .ok (.iload_n 3, 1) := by decide +kernel
theorem dJ7_fill_031fb_7 : decode cJ7_fill_031fb 7 = .ok (.if_icmp .ge 13, 3) := by decide +kernel
theorem dJ7_fill_031fb_10 : decode cJ7_fill_031fb 10 = .ok (.aload_n 0, 1) := by decide +kernel
theorem dJ7_fill_031fb_11 : decode cJ7_fill_031fb 11 = .ok (.iload_n 2, 1) := by decide +kernel
theorem dJ7_fill_031fb_12 : decode cJ7_fill_031fb 12 = .ok (.iload_n 1, 1) := by decide +kernel
theorem dJ7_fill_031fb_13 : decode cJ7_fill_031fb 13 = .ok (.bastore, 1) := by decide +kernel
theorem dJ7_fill_031fb_14 : decode cJ7_fill_031fb 14 = .ok (.iinc 2 1, 3) := by decide +kernel
theorem dJ7_fill_031fb_17 : decode cJ7_fill_031fb 17 = .ok (.goto (-12), 3) := by decide +kernel
theorem dJ7_fill_031fb_20 : decode cJ7_fill_031fb 20 = .ok (.return_, 1) := by decide +kernel
theorem dJ7_copyOf_9075b_0 : decode cJ7_copyOf_9075b 0 = .ok (.iload_n 1, 1) := by decide +kernel
theorem dJ7_copyOf_9075b_1 : decode cJ7_copyOf_9075b 1 = .ok (.aload_n 0, 1) := by decide +kernel
theorem dJ7_copyOf_9075b_2 : decode cJ7_copyOf_9075b 2 = .ok (.arraylength, 1) := by decide +kernel
theorem dJ7_copyOf_9075b_3 : decode cJ7_copyOf_9075b 3 = .ok (.if_icmp .ne 11, 3) := by decide +kernel
theorem dJ7_copyOf_9075b_6 : decode cJ7_copyOf_9075b 6 = .ok (.aload_n 0, 1) := by decide +kernel
theorem dJ7_copyOf_9075b_7 : decode cJ7_copyOf_9075b 7 = .ok (.invokevirtual 310, 3) := by decide +kernel
theorem dJ7_copyOf_9075b_10 : decode cJ7_copyOf_9075b 10 = .ok (.checkcast 311, 3) := by decide +kernel
theorem dJ7_copyOf_9075b_13 : decode cJ7_copyOf_9075b 13 = .ok (.areturn, 1) := by decide +kernel
theorem dJ7_copyOf_9075b_14 : decode cJ7_copyOf_9075b 14 = .ok (.iload_n 1, 1) := by decide +kernel
theorem dJ7_copyOf_9075b_15 : decode cJ7_copyOf_9075b 15 = .ok (.newarray .byte, 2) := by decide +kernel
theorem dJ7_copyOf_9075b_17 : decode cJ7_copyOf_9075b 17 = .ok (.astore_n 2, 1) := by decide +kernel
theorem dJ7_copyOf_9075b_18 : decode cJ7_copyOf_9075b 18 = .ok (.aload_n 0, 1) := by decide +kernel
theorem dJ7_copyOf_9075b_19 : decode cJ7_copyOf_9075b 19 = .ok (.iconst 0, 1) := by decide +kernel
theorem dJ7_copyOf_9075b_20 : decode cJ7_copyOf_9075b 20 = .ok (.aload_n 2, 1) := by decide +kernel
theorem dJ7_copyOf_9075b_21 : decode cJ7_copyOf_9075b 21 = .ok (.iconst 0, 1) := by decide +kernel
theorem dJ7_copyOf_9075b_22 : decode cJ7_copyOf_9075b 22 = .ok (.aload_n 0, 1) := by decide +kernel
theorem dJ7_copyOf_9075b_23 : decode cJ7_copyOf_9075b 23 = .ok (.arraylength, 1) := by decide +kernel
theorem dJ7_copyOf_9075b_24 : decode cJ7_copyOf_9075b 24 = .ok (.iload_n 1, 1) := by decide +kernel
theorem dJ7_copyOf_9075b_25 : decode cJ7_copyOf_9075b 25 = .ok (.invokestatic 304, 3) := by decide +kernel
theorem dJ7_copyOf_9075b_28 : decode cJ7_copyOf_9075b 28 = .ok (.invokestatic 150, 3) := by decide +kernel
theorem dJ7_copyOf_9075b_31 : decode cJ7_copyOf_9075b 31 = .ok (.aload_n 2, 1) := by decide +kernel
theorem dJ7_copyOf_9075b_32 : decode cJ7_copyOf_9075b 32 = .ok (.areturn, 1) := by decide +kernel
theorem dL_directory_0 : decode cL_directory 0 = .ok (.aload_n 3, 1) := by decide +kernel
theorem dL_directory_1 : decode cL_directory 1 = .ok (.iconst 0, 1) := by decide +kernel
theorem dL_directory_2 : decode cL_directory 2 = .ok (.aload_n 0, 1) := by decide +kernel
theorem dL_directory_3 : decode cL_directory 3 = .ok (.iload_n 1, 1) := by decide +kernel
theorem dL_directory_4 : decode cL_directory 4 = .ok (.iload_n 2, 1) := by decide +kernel
theorem dL_directory_5 : decode cL_directory 5 = .ok (.invokevirtual 7, 3) := by decide +kernel
theorem dL_directory_8 : decode cL_directory 8 = .ok (.i2l, 1) := by decide +kernel
theorem dL_directory_9 : decode cL_directory 9 = .ok (.lastore, 1) := by decide +kernel
theorem dL_directory_10 : decode cL_directory 10 = .ok (.goto 7, 3) := by decide +kernel
theorem dL_directory_13 : decode cL_directory 13 = .ok (.astore 4, 2) := by decide +kernel
theorem dL_directory_15 : decode cL_directory 15 = .ok (.iconst 1, 1) := by decide +kernel
theorem dL_directory_16 : decode cL_directory 16 = .ok (.ireturn, 1) := by decide +kernel
theorem dL_directory_17 : decode cL_directory 17 = .ok (.iconst 0, 1) := by decide +kernel
theorem dL_directory_18 : decode cL_directory 18 = .ok (.ireturn, 1) := by decide +kernel
theorem dL_octet_0 : decode cL_octet 0 = .ok (.aload_n 2, 1) := by decide +kernel
theorem dL_octet_1 : decode cL_octet 1 = .ok (.iconst 0, 1) := by decide +kernel
theorem dL_octet_2 : decode cL_octet 2 = .ok (.aload_n 0, 1) := by decide +kernel
theorem dL_octet_3 : decode cL_octet 3 = .ok (.iload_n 1, 1) := by decide +kernel
theorem dL_octet_4 : decode cL_octet 4 = .ok (.invokevirtual 15, 3) := by decide +kernel
theorem dL_octet_7 : decode cL_octet 7 = .ok (.i2l, 1) := by decide +kernel
theorem dL_octet_8 : decode cL_octet 8 = .ok (.lastore, 1) := by decide +kernel
theorem dL_octet_9 : decode cL_octet 9 = .ok (.goto 6, 3) := by decide +kernel
theorem dL_octet_12 : decode cL_octet 12 = .ok (.astore_n 3, 1) := by decide +kernel
theorem dL_octet_13 : decode cL_octet 13 = .ok (.iconst 1, 1) := by decide +kernel
theorem dL_octet_14 : decode cL_octet 14 = .ok (.ireturn, 1) := by decide +kernel
theorem dL_octet_15 : decode cL_octet 15 = .ok (.iconst 0, 1) := by decide +kernel
theorem dL_octet_16 : decode cL_octet 16 = .ok (.ireturn, 1) := by decide +kernel
theorem dL_law_0 : decode cL_law 0 = .ok (.new 8, 3) := by decide +kernel
theorem dL_law_3 : decode cL_law 3 = .ok (.dup, 1) := by decide +kernel
theorem dL_law_4 : decode cL_law 4 = .ok (.invokespecial 19, 3) := by decide +kernel
theorem dL_law_7 : decode cL_law 7 = .ok (.astore_n 1, 1) := by decide +kernel
theorem dL_law_8 : decode cL_law 8 = .ok (.new 20, 3) := by decide +kernel
theorem dL_law_11 : decode cL_law 11 = .ok (.dup, 1) := by decide +kernel
theorem dL_law_12 : decode cL_law 12 = .ok (.invokespecial 22, 3) := by decide +kernel
theorem dL_law_15 : decode cL_law 15 = .ok (.astore_n 2, 1) := by decide +kernel
theorem dL_law_16 : decode cL_law 16 = .ok (.iconst 1, 1) := by decide +kernel
theorem dL_law_17 : decode cL_law 17 = .ok (.newarray .long, 2) := by decide +kernel
theorem dL_law_19 : decode cL_law 19 = .ok (.astore_n 3, 1) := by decide +kernel
theorem dL_law_20 : decode cL_law 20 = .ok (.iconst 0, 1) := by decide +kernel
theorem dL_law_21 : decode cL_law 21 = .ok (.istore 4, 2) := by decide +kernel
theorem dL_law_23 : decode cL_law 23 = .ok (.iload 4, 2) := by decide +kernel
theorem dL_law_25 : decode cL_law 25 = .ok (.aload_n 0, 1) := by decide +kernel
theorem dL_law_26 : decode cL_law 26 = .ok (.arraylength, 1) := by decide +kernel
theorem dL_law_27 : decode cL_law 27 = .ok (.iconst 5, 1) := by decide +kernel
theorem dL_law_28 : decode cL_law 28 = .ok (.isub, 1) := by decide +kernel
theorem dL_law_29 : decode cL_law 29 = .ok (.if_icmp .gt 521, 3) := by decide +kernel
theorem dL_law_32 : decode cL_law 32 = .ok (.aload_n 0, 1) := by decide +kernel
theorem dL_law_33 : decode cL_law 33 = .ok (.iload 4, 2) := by decide +kernel
theorem dL_law_35 : decode cL_law 35 = .ok (.iaload, 1) := by decide +kernel
theorem dL_law_36 : decode cL_law 36 = .ok (.bipush 15, 2) := by decide +kernel
theorem dL_law_38 : decode cL_law 38 = .ok (.iand, 1) := by decide +kernel
theorem dL_law_39 : decode cL_law 39 = .ok (.tableswitch 505 0 11 #[61, 86, 99, 136, 173, 234, 302, 315, 352, 389, 436, 449], 61) := by decide +kernel
theorem dL_law_100 : decode cL_law 100 = .ok (.aload_n 1, 1) := by decide +kernel
theorem dL_law_101 : decode cL_law 101 = .ok (.aload_n 0, 1) := by decide +kernel
theorem dL_law_102 : decode cL_law 102 = .ok (.iload 4, 2) := by decide +kernel
theorem dL_law_104 : decode cL_law 104 = .ok (.iconst 1, 1) := by decide +kernel
theorem dL_law_105 : decode cL_law 105 = .ok (.iadd, 1) := by decide +kernel
theorem dL_law_106 : decode cL_law 106 = .ok (.iaload, 1) := by decide +kernel
theorem dL_law_107 : decode cL_law 107 = .ok (.i2b, 1) := by decide +kernel
theorem dL_law_108 : decode cL_law 108 = .ok (.invokevirtual 23, 3) := by decide +kernel
theorem dL_law_111 : decode cL_law 111 = .ok (.aload_n 2, 1) := by decide +kernel
theorem dL_law_112 : decode cL_law 112 = .ok (.aload_n 0, 1) := by decide +kernel
theorem dL_law_113 : decode cL_law 113 = .ok (.iload 4, 2) := by decide +kernel
theorem dL_law_115 : decode cL_law 115 = .ok (.iconst 1, 1) := by decide +kernel
theorem dL_law_116 : decode cL_law 116 = .ok (.iadd, 1) := by decide +kernel
theorem dL_law_117 : decode cL_law 117 = .ok (.iaload, 1) := by decide +kernel
theorem dL_law_118 : decode cL_law 118 = .ok (.i2b, 1) := by decide +kernel
theorem dL_law_119 : decode cL_law 119 = .ok (.invokevirtual 27, 3) := by decide +kernel
theorem dL_law_122 : decode cL_law 122 = .ok (.goto 422, 3) := by decide +kernel
theorem dL_law_125 : decode cL_law 125 = .ok (.aload_n 1, 1) := by decide +kernel
theorem dL_law_126 : decode cL_law 126 = .ok (.invokevirtual 28, 3) := by decide +kernel
theorem dL_law_129 : decode cL_law 129 = .ok (.aload_n 2, 1) := by decide +kernel
theorem dL_law_130 : decode cL_law 130 = .ok (.invokevirtual 32, 3) := by decide +kernel
theorem dL_law_133 : decode cL_law 133 = .ok (.if_icmp .eq 411, 3) := by decide +kernel
theorem dL_law_136 : decode cL_law 136 = .ok (.iconst 0, 1) := by decide +kernel
theorem dL_law_137 : decode cL_law 137 = .ok (.ireturn, 1) := by decide +kernel
theorem dL_law_138 : decode cL_law 138 = .ok (.aload_n 1, 1) := by decide +kernel
theorem dL_law_139 : decode cL_law 139 = .ok (.aload_n 0, 1) := by decide +kernel
theorem dL_law_140 : decode cL_law 140 = .ok (.iload 4, 2) := by decide +kernel
theorem dL_law_142 : decode cL_law 142 = .ok (.iconst 1, 1) := by decide +kernel
theorem dL_law_143 : decode cL_law 143 = .ok (.iadd, 1) := by decide +kernel
theorem dL_law_144 : decode cL_law 144 = .ok (.iaload, 1) := by decide +kernel
theorem dL_law_145 : decode cL_law 145 = .ok (.aload_n 0, 1) := by decide +kernel
theorem dL_law_146 : decode cL_law 146 = .ok (.iload 4, 2) := by decide +kernel
theorem dL_law_148 : decode cL_law 148 = .ok (.iconst 2, 1) := by decide +kernel
theorem dL_law_149 : decode cL_law 149 = .ok (.iadd, 1) := by decide +kernel
theorem dL_law_150 : decode cL_law 150 = .ok (.iaload, 1) := by decide +kernel
theorem dL_law_151 : decode cL_law 151 = .ok (.invokevirtual 33, 3) := by decide +kernel
theorem dL_law_154 : decode cL_law 154 = .ok (.aload_n 2, 1) := by decide +kernel
theorem dL_law_155 : decode cL_law 155 = .ok (.aload_n 0, 1) := by decide +kernel
theorem dL_law_156 : decode cL_law 156 = .ok (.iload 4, 2) := by decide +kernel
theorem dL_law_158 : decode cL_law 158 = .ok (.iconst 1, 1) := by decide +kernel
theorem dL_law_159 : decode cL_law 159 = .ok (.iadd, 1) := by decide +kernel
theorem dL_law_160 : decode cL_law 160 = .ok (.iaload, 1) := by decide +kernel
theorem dL_law_161 : decode cL_law 161 = .ok (.aload_n 0, 1) := by decide +kernel
theorem dL_law_162 : decode cL_law 162 = .ok (.iload 4, 2) := by decide +kernel
theorem dL_law_164 : decode cL_law 164 = .ok (.iconst 2, 1) := by decide +kernel
theorem dL_law_165 : decode cL_law 165 = .ok (.iadd, 1) := by decide +kernel
theorem dL_law_166 : decode cL_law 166 = .ok (.iaload, 1) := by decide +kernel
theorem dL_law_167 : decode cL_law 167 = .ok (.invokevirtual 36, 3) := by decide +kernel
theorem dL_law_170 : decode cL_law 170 = .ok (.if_icmp .eq 374, 3) := by decide +kernel
theorem dL_law_173 : decode cL_law 173 = .ok (.iconst 0, 1) := by decide +kernel
theorem dL_law_174 : decode cL_law 174 = .ok (.ireturn, 1) := by decide +kernel
theorem dL_law_175 : decode cL_law 175 = .ok (.aload_n 1, 1) := by decide +kernel
theorem dL_law_176 : decode cL_law 176 = .ok (.aload_n 0, 1) := by decide +kernel
theorem dL_law_177 : decode cL_law 177 = .ok (.iload 4, 2) := by decide +kernel
theorem dL_law_179 : decode cL_law 179 = .ok (.iconst 1, 1) := by decide +kernel
theorem dL_law_180 : decode cL_law 180 = .ok (.iadd, 1) := by decide +kernel
theorem dL_law_181 : decode cL_law 181 = .ok (.iaload, 1) := by decide +kernel
theorem dL_law_182 : decode cL_law 182 = .ok (.aload_n 0, 1) := by decide +kernel
theorem dL_law_183 : decode cL_law 183 = .ok (.iload 4, 2) := by decide +kernel
theorem dL_law_185 : decode cL_law 185 = .ok (.iconst 2, 1) := by decide +kernel
theorem dL_law_186 : decode cL_law 186 = .ok (.iadd, 1) := by decide +kernel
theorem dL_law_187 : decode cL_law 187 = .ok (.iaload, 1) := by decide +kernel
theorem dL_law_188 : decode cL_law 188 = .ok (.invokevirtual 37, 3) := by decide +kernel
theorem dL_law_191 : decode cL_law 191 = .ok (.aload_n 2, 1) := by decide +kernel
theorem dL_law_192 : decode cL_law 192 = .ok (.aload_n 0, 1) := by decide +kernel
theorem dL_law_193 : decode cL_law 193 = .ok (.iload 4, 2) := by decide +kernel
theorem dL_law_195 : decode cL_law 195 = .ok (.iconst 1, 1) := by decide +kernel
theorem dL_law_196 : decode cL_law 196 = .ok (.iadd, 1) := by decide +kernel
theorem dL_law_197 : decode cL_law 197 = .ok (.iaload, 1) := by decide +kernel
theorem dL_law_198 : decode cL_law 198 = .ok (.aload_n 0, 1) := by decide +kernel
theorem dL_law_199 : decode cL_law 199 = .ok (.iload 4, 2) := by decide +kernel
theorem dL_law_201 : decode cL_law 201 = .ok (.iconst 2, 1) := by decide +kernel
theorem dL_law_202 : decode cL_law 202 = .ok (.iadd, 1) := by decide +kernel
theorem dL_law_203 : decode cL_law 203 = .ok (.iaload, 1) := by decide +kernel
theorem dL_law_204 : decode cL_law 204 = .ok (.invokevirtual 40, 3) := by decide +kernel
theorem dL_law_207 : decode cL_law 207 = .ok (.if_icmp .eq 337, 3) := by decide +kernel
theorem dL_law_210 : decode cL_law 210 = .ok (.iconst 0, 1) := by decide +kernel
theorem dL_law_211 : decode cL_law 211 = .ok (.ireturn, 1) := by decide +kernel
theorem dL_law_212 : decode cL_law 212 = .ok (.aload_n 1, 1) := by decide +kernel
theorem dL_law_213 : decode cL_law 213 = .ok (.aload_n 0, 1) := by decide +kernel
theorem dL_law_214 : decode cL_law 214 = .ok (.iload 4, 2) := by decide +kernel
theorem dL_law_216 : decode cL_law 216 = .ok (.iconst 1, 1) := by decide +kernel
theorem dL_law_217 : decode cL_law 217 = .ok (.iadd, 1) := by decide +kernel
theorem dL_law_218 : decode cL_law 218 = .ok (.iaload, 1) := by decide +kernel
theorem dL_law_219 : decode cL_law 219 = .ok (.aload_n 0, 1) := by decide +kernel
theorem dL_law_220 : decode cL_law 220 = .ok (.iload 4, 2) := by decide +kernel
theorem dL_law_222 : decode cL_law 222 = .ok (.iconst 2, 1) := by decide +kernel
theorem dL_law_223 : decode cL_law 223 = .ok (.iadd, 1) := by decide +kernel
theorem dL_law_224 : decode cL_law 224 = .ok (.iaload, 1) := by decide +kernel
theorem dL_law_225 : decode cL_law 225 = .ok (.aload_n 0, 1) := by decide +kernel
theorem dL_law_226 : decode cL_law 226 = .ok (.iload 4, 2) := by decide +kernel
theorem dL_law_228 : decode cL_law 228 = .ok (.iconst 3, 1) := by decide +kernel
theorem dL_law_229 : decode cL_law 229 = .ok (.iadd, 1) := by decide +kernel
theorem dL_law_230 : decode cL_law 230 = .ok (.iaload, 1) := by decide +kernel
theorem dL_law_231 : decode cL_law 231 = .ok (.aload_n 0, 1) := by decide +kernel
theorem dL_law_232 : decode cL_law 232 = .ok (.iload 4, 2) := by decide +kernel
theorem dL_law_234 : decode cL_law 234 = .ok (.iconst 4, 1) := by decide +kernel
theorem dL_law_235 : decode cL_law 235 = .ok (.iadd, 1) := by decide +kernel
theorem dL_law_236 : decode cL_law 236 = .ok (.iaload, 1) := by decide +kernel
theorem dL_law_237 : decode cL_law 237 = .ok (.invokevirtual 41, 3) := by decide +kernel
theorem dL_law_240 : decode cL_law 240 = .ok (.aload_n 2, 1) := by decide +kernel
theorem dL_law_241 : decode cL_law 241 = .ok (.aload_n 0, 1) := by decide +kernel
theorem dL_law_242 : decode cL_law 242 = .ok (.iload 4, 2) := by decide +kernel
theorem dL_law_244 : decode cL_law 244 = .ok (.iconst 1, 1) := by decide +kernel
theorem dL_law_245 : decode cL_law 245 = .ok (.iadd, 1) := by decide +kernel
theorem dL_law_246 : decode cL_law 246 = .ok (.iaload, 1) := by decide +kernel
theorem dL_law_247 : decode cL_law 247 = .ok (.aload_n 0, 1) := by decide +kernel
theorem dL_law_248 : decode cL_law 248 = .ok (.iload 4, 2) := by decide +kernel
theorem dL_law_250 : decode cL_law 250 = .ok (.iconst 2, 1) := by decide +kernel
theorem dL_law_251 : decode cL_law 251 = .ok (.iadd, 1) := by decide +kernel
theorem dL_law_252 : decode cL_law 252 = .ok (.iaload, 1) := by decide +kernel
theorem dL_law_253 : decode cL_law 253 = .ok (.aload_n 0, 1) := by decide +kernel
theorem dL_law_254 : decode cL_law 254 = .ok (.iload 4, 2) := by decide +kernel
theorem dL_law_256 : decode cL_law 256 = .ok (.iconst 3, 1) := by decide +kernel
theorem dL_law_257 : decode cL_law 257 = .ok (.iadd, 1) := by decide +kernel
theorem dL_law_258 : decode cL_law 258 = .ok (.iaload, 1) := by decide +kernel
theorem dL_law_259 : decode cL_law 259 = .ok (.aload_n 0, 1) := by decide +kernel
theorem dL_law_260 : decode cL_law 260 = .ok (.iload 4, 2) := by decide +kernel
theorem dL_law_262 : decode cL_law 262 = .ok (.iconst 4, 1) := by decide +kernel
theorem dL_law_263 : decode cL_law 263 = .ok (.iadd, 1) := by decide +kernel
theorem dL_law_264 : decode cL_law 264 = .ok (.iaload, 1) := by decide +kernel
theorem dL_law_265 : decode cL_law 265 = .ok (.invokevirtual 45, 3) := by decide +kernel
theorem dL_law_268 : decode cL_law 268 = .ok (.if_icmp .eq 276, 3) := by decide +kernel
theorem dL_law_271 : decode cL_law 271 = .ok (.iconst 0, 1) := by decide +kernel
theorem dL_law_272 : decode cL_law 272 = .ok (.ireturn, 1) := by decide +kernel
theorem dL_law_273 : decode cL_law 273 = .ok (.aload_n 1, 1) := by decide +kernel
theorem dL_law_274 : decode cL_law 274 = .ok (.aload_n 0, 1) := by decide +kernel
theorem dL_law_275 : decode cL_law 275 = .ok (.iload 4, 2) := by decide +kernel
theorem dL_law_277 : decode cL_law 277 = .ok (.iconst 1, 1) := by decide +kernel
theorem dL_law_278 : decode cL_law 278 = .ok (.iadd, 1) := by decide +kernel
theorem dL_law_279 : decode cL_law 279 = .ok (.iaload, 1) := by decide +kernel
theorem dL_law_280 : decode cL_law 280 = .ok (.aload_n 0, 1) := by decide +kernel
theorem dL_law_281 : decode cL_law 281 = .ok (.iload 4, 2) := by decide +kernel
theorem dL_law_283 : decode cL_law 283 = .ok (.iconst 2, 1) := by decide +kernel
theorem dL_law_284 : decode cL_law 284 = .ok (.iadd, 1) := by decide +kernel
theorem dL_law_285 : decode cL_law 285 = .ok (.iaload, 1) := by decide +kernel
theorem dL_law_286 : decode cL_law 286 = .ok (.aload_n 3, 1) := by decide +kernel
theorem dL_law_287 : decode cL_law 287 = .ok (.invokestatic 46, 3) := by decide +kernel
theorem dL_law_290 : decode cL_law 290 = .ok (.istore 5, 2) := by decide +kernel
theorem dL_law_292 : decode cL_law 292 = .ok (.aload_n 2, 1) := by decide +kernel
theorem dL_law_293 : decode cL_law 293 = .ok (.aload_n 0, 1) := by decide +kernel
theorem dL_law_294 : decode cL_law 294 = .ok (.iload 4, 2) := by decide +kernel
theorem dL_law_296 : decode cL_law 296 = .ok (.iconst 1, 1) := by decide +kernel
theorem dL_law_297 : decode cL_law 297 = .ok (.iadd, 1) := by decide +kernel
theorem dL_law_298 : decode cL_law 298 = .ok (.iaload, 1) := by decide +kernel
theorem dL_law_299 : decode cL_law 299 = .ok (.aload_n 0, 1) := by decide +kernel
theorem dL_law_300 : decode cL_law 300 = .ok (.iload 4, 2) := by decide +kernel
theorem dL_law_302 : decode cL_law 302 = .ok (.iconst 2, 1) := by decide +kernel
theorem dL_law_303 : decode cL_law 303 = .ok (.iadd, 1) := by decide +kernel
theorem dL_law_304 : decode cL_law 304 = .ok (.iaload, 1) := by decide +kernel
theorem dL_law_305 : decode cL_law 305 = .ok (.invokevirtual 51, 3) := by decide +kernel
theorem dL_law_308 : decode cL_law 308 = .ok (.istore 6, 2) := by decide +kernel
theorem dL_law_310 : decode cL_law 310 = .ok (.aload_n 2, 1) := by decide +kernel
theorem dL_law_311 : decode cL_law 311 = .ok (.invokevirtual 52, 3) := by decide +kernel
theorem dL_law_314 : decode cL_law 314 = .ok (.iload 5, 2) := by decide +kernel
theorem dL_law_316 : decode cL_law 316 = .ok (.if_icmp .eq 5, 3) := by decide +kernel
theorem dL_law_319 : decode cL_law 319 = .ok (.iconst 0, 1) := by decide +kernel
theorem dL_law_320 : decode cL_law 320 = .ok (.ireturn, 1) := by decide +kernel
theorem dL_law_321 : decode cL_law 321 = .ok (.iload 5, 2) := by decide +kernel
theorem dL_law_323 : decode cL_law 323 = .ok (.ifCond .ne 15, 3) := by decide +kernel
theorem dL_law_326 : decode cL_law 326 = .ok (.aload_n 3, 1) := by decide +kernel
theorem dL_law_327 : decode cL_law 327 = .ok (.iconst 0, 1) := by decide +kernel
theorem dL_law_328 : decode cL_law 328 = .ok (.laload, 1) := by decide +kernel
theorem dL_law_329 : decode cL_law 329 = .ok (.iload 6, 2) := by decide +kernel
theorem dL_law_331 : decode cL_law 331 = .ok (.i2l, 1) := by decide +kernel
theorem dL_law_332 : decode cL_law 332 = .ok (.lcmp, 1) := by decide +kernel
theorem dL_law_333 : decode cL_law 333 = .ok (.ifCond .eq 5, 3) := by decide +kernel
theorem dL_law_336 : decode cL_law 336 = .ok (.iconst 0, 1) := by decide +kernel
theorem dL_law_337 : decode cL_law 337 = .ok (.ireturn, 1) := by decide +kernel
theorem dL_law_338 : decode cL_law 338 = .ok (.goto 206, 3) := by decide +kernel
theorem dL_law_341 : decode cL_law 341 = .ok (.aload_n 1, 1) := by decide +kernel
theorem dL_law_342 : decode cL_law 342 = .ok (.invokevirtual 55, 3) := by decide +kernel
theorem dL_law_345 : decode cL_law 345 = .ok (.aload_n 2, 1) := by decide +kernel
theorem dL_law_346 : decode cL_law 346 = .ok (.invokevirtual 58, 3) := by decide +kernel
theorem dL_law_349 : decode cL_law 349 = .ok (.if_icmp .eq 195, 3) := by decide +kernel
theorem dL_law_352 : decode cL_law 352 = .ok (.iconst 0, 1) := by decide +kernel
theorem dL_law_353 : decode cL_law 353 = .ok (.ireturn, 1) := by decide +kernel
theorem dL_law_354 : decode cL_law 354 = .ok (.aload_n 1, 1) := by decide +kernel
theorem dL_law_355 : decode cL_law 355 = .ok (.aload_n 0, 1) := by decide +kernel
theorem dL_law_356 : decode cL_law 356 = .ok (.iload 4, 2) := by decide +kernel
theorem dL_law_358 : decode cL_law 358 = .ok (.iconst 1, 1) := by decide +kernel
theorem dL_law_359 : decode cL_law 359 = .ok (.iadd, 1) := by decide +kernel
theorem dL_law_360 : decode cL_law 360 = .ok (.iaload, 1) := by decide +kernel
theorem dL_law_361 : decode cL_law 361 = .ok (.aload_n 0, 1) := by decide +kernel
theorem dL_law_362 : decode cL_law 362 = .ok (.iload 4, 2) := by decide +kernel
theorem dL_law_364 : decode cL_law 364 = .ok (.iconst 2, 1) := by decide +kernel
theorem dL_law_365 : decode cL_law 365 = .ok (.iadd, 1) := by decide +kernel
theorem dL_law_366 : decode cL_law 366 = .ok (.iaload, 1) := by decide +kernel
theorem dL_law_367 : decode cL_law 367 = .ok (.invokevirtual 59, 3) := by decide +kernel
theorem dL_law_370 : decode cL_law 370 = .ok (.aload_n 2, 1) := by decide +kernel
theorem dL_law_371 : decode cL_law 371 = .ok (.aload_n 0, 1) := by decide +kernel
theorem dL_law_372 : decode cL_law 372 = .ok (.iload 4, 2) := by decide +kernel
theorem dL_law_374 : decode cL_law 374 = .ok (.iconst 1, 1) := by decide +kernel
theorem dL_law_375 : decode cL_law 375 = .ok (.iadd, 1) := by decide +kernel
theorem dL_law_376 : decode cL_law 376 = .ok (.iaload, 1) := by decide +kernel
theorem dL_law_377 : decode cL_law 377 = .ok (.aload_n 0, 1) := by decide +kernel
theorem dL_law_378 : decode cL_law 378 = .ok (.iload 4, 2) := by decide +kernel
theorem dL_law_380 : decode cL_law 380 = .ok (.iconst 2, 1) := by decide +kernel
theorem dL_law_381 : decode cL_law 381 = .ok (.iadd, 1) := by decide +kernel
theorem dL_law_382 : decode cL_law 382 = .ok (.iaload, 1) := by decide +kernel
theorem dL_law_383 : decode cL_law 383 = .ok (.invokevirtual 63, 3) := by decide +kernel
theorem dL_law_386 : decode cL_law 386 = .ok (.if_icmp .eq 158, 3) := by decide +kernel
theorem dL_law_389 : decode cL_law 389 = .ok (.iconst 0, 1) := by decide +kernel
theorem dL_law_390 : decode cL_law 390 = .ok (.ireturn, 1) := by decide +kernel
theorem dL_law_391 : decode cL_law 391 = .ok (.aload_n 1, 1) := by decide +kernel
theorem dL_law_392 : decode cL_law 392 = .ok (.aload_n 0, 1) := by decide +kernel
theorem dL_law_393 : decode cL_law 393 = .ok (.iload 4, 2) := by decide +kernel
theorem dL_law_395 : decode cL_law 395 = .ok (.iconst 1, 1) := by decide +kernel
theorem dL_law_396 : decode cL_law 396 = .ok (.iadd, 1) := by decide +kernel
theorem dL_law_397 : decode cL_law 397 = .ok (.iaload, 1) := by decide +kernel
theorem dL_law_398 : decode cL_law 398 = .ok (.aload_n 0, 1) := by decide +kernel
theorem dL_law_399 : decode cL_law 399 = .ok (.iload 4, 2) := by decide +kernel
theorem dL_law_401 : decode cL_law 401 = .ok (.iconst 2, 1) := by decide +kernel
theorem dL_law_402 : decode cL_law 402 = .ok (.iadd, 1) := by decide +kernel
theorem dL_law_403 : decode cL_law 403 = .ok (.iaload, 1) := by decide +kernel
theorem dL_law_404 : decode cL_law 404 = .ok (.invokevirtual 64, 3) := by decide +kernel
theorem dL_law_407 : decode cL_law 407 = .ok (.aload_n 2, 1) := by decide +kernel
theorem dL_law_408 : decode cL_law 408 = .ok (.aload_n 0, 1) := by decide +kernel
theorem dL_law_409 : decode cL_law 409 = .ok (.iload 4, 2) := by decide +kernel
theorem dL_law_411 : decode cL_law 411 = .ok (.iconst 1, 1) := by decide +kernel
theorem dL_law_412 : decode cL_law 412 = .ok (.iadd, 1) := by decide +kernel
theorem dL_law_413 : decode cL_law 413 = .ok (.iaload, 1) := by decide +kernel
theorem dL_law_414 : decode cL_law 414 = .ok (.aload_n 0, 1) := by decide +kernel
theorem dL_law_415 : decode cL_law 415 = .ok (.iload 4, 2) := by decide +kernel
theorem dL_law_417 : decode cL_law 417 = .ok (.iconst 2, 1) := by decide +kernel
theorem dL_law_418 : decode cL_law 418 = .ok (.iadd, 1) := by decide +kernel
theorem dL_law_419 : decode cL_law 419 = .ok (.iaload, 1) := by decide +kernel
theorem dL_law_420 : decode cL_law 420 = .ok (.invokevirtual 67, 3) := by decide +kernel
theorem dL_law_423 : decode cL_law 423 = .ok (.if_icmp .eq 121, 3) := by decide +kernel
theorem dL_law_426 : decode cL_law 426 = .ok (.iconst 0, 1) := by decide +kernel
theorem dL_law_427 : decode cL_law 427 = .ok (.ireturn, 1) := by decide +kernel
theorem dL_law_428 : decode cL_law 428 = .ok (.aload_n 1, 1) := by decide +kernel
theorem dL_law_429 : decode cL_law 429 = .ok (.aload_n 0, 1) := by decide +kernel
theorem dL_law_430 : decode cL_law 430 = .ok (.iload 4, 2) := by decide +kernel
theorem dL_law_432 : decode cL_law 432 = .ok (.iconst 1, 1) := by decide +kernel
theorem dL_law_433 : decode cL_law 433 = .ok (.iadd, 1) := by decide +kernel
theorem dL_law_434 : decode cL_law 434 = .ok (.iaload, 1) := by decide +kernel
theorem dL_law_435 : decode cL_law 435 = .ok (.aload_n 0, 1) := by decide +kernel
theorem dL_law_436 : decode cL_law 436 = .ok (.iload 4, 2) := by decide +kernel
theorem dL_law_438 : decode cL_law 438 = .ok (.iconst 2, 1) := by decide +kernel
theorem dL_law_439 : decode cL_law 439 = .ok (.iadd, 1) := by decide +kernel
theorem dL_law_440 : decode cL_law 440 = .ok (.iaload, 1) := by decide +kernel
theorem dL_law_441 : decode cL_law 441 = .ok (.aload_n 0, 1) := by decide +kernel
theorem dL_law_442 : decode cL_law 442 = .ok (.iload 4, 2) := by decide +kernel
theorem dL_law_444 : decode cL_law 444 = .ok (.iconst 3, 1) := by decide +kernel
theorem dL_law_445 : decode cL_law 445 = .ok (.iadd, 1) := by decide +kernel
theorem dL_law_446 : decode cL_law 446 = .ok (.iaload, 1) := by decide +kernel
theorem dL_law_447 : decode cL_law 447 = .ok (.invokevirtual 68, 3) := by decide +kernel
theorem dL_law_450 : decode cL_law 450 = .ok (.aload_n 2, 1) := by decide +kernel
theorem dL_law_451 : decode cL_law 451 = .ok (.aload_n 0, 1) := by decide +kernel
theorem dL_law_452 : decode cL_law 452 = .ok (.iload 4, 2) := by decide +kernel
theorem dL_law_454 : decode cL_law 454 = .ok (.iconst 1, 1) := by decide +kernel
theorem dL_law_455 : decode cL_law 455 = .ok (.iadd, 1) := by decide +kernel
theorem dL_law_456 : decode cL_law 456 = .ok (.iaload, 1) := by decide +kernel
theorem dL_law_457 : decode cL_law 457 = .ok (.aload_n 0, 1) := by decide +kernel
theorem dL_law_458 : decode cL_law 458 = .ok (.iload 4, 2) := by decide +kernel
theorem dL_law_460 : decode cL_law 460 = .ok (.iconst 2, 1) := by decide +kernel
theorem dL_law_461 : decode cL_law 461 = .ok (.iadd, 1) := by decide +kernel
theorem dL_law_462 : decode cL_law 462 = .ok (.iaload, 1) := by decide +kernel
theorem dL_law_463 : decode cL_law 463 = .ok (.aload_n 0, 1) := by decide +kernel
theorem dL_law_464 : decode cL_law 464 = .ok (.iload 4, 2) := by decide +kernel
theorem dL_law_466 : decode cL_law 466 = .ok (.iconst 3, 1) := by decide +kernel
theorem dL_law_467 : decode cL_law 467 = .ok (.iadd, 1) := by decide +kernel
theorem dL_law_468 : decode cL_law 468 = .ok (.iaload, 1) := by decide +kernel
theorem dL_law_469 : decode cL_law 469 = .ok (.invokevirtual 72, 3) := by decide +kernel
theorem dL_law_472 : decode cL_law 472 = .ok (.goto 72, 3) := by decide +kernel
theorem dL_law_475 : decode cL_law 475 = .ok (.aload_n 1, 1) := by decide +kernel
theorem dL_law_476 : decode cL_law 476 = .ok (.invokevirtual 73, 3) := by decide +kernel
theorem dL_law_479 : decode cL_law 479 = .ok (.aload_n 2, 1) := by decide +kernel
theorem dL_law_480 : decode cL_law 480 = .ok (.invokevirtual 76, 3) := by decide +kernel
theorem dL_law_483 : decode cL_law 483 = .ok (.if_icmp .eq 61, 3) := by decide +kernel
theorem dL_law_486 : decode cL_law 486 = .ok (.iconst 0, 1) := by decide +kernel
theorem dL_law_487 : decode cL_law 487 = .ok (.ireturn, 1) := by decide +kernel
theorem dL_law_488 : decode cL_law 488 = .ok (.aload_n 1, 1) := by decide +kernel
theorem dL_law_489 : decode cL_law 489 = .ok (.aload_n 0, 1) := by decide +kernel
theorem dL_law_490 : decode cL_law 490 = .ok (.iload 4, 2) := by decide +kernel
theorem dL_law_492 : decode cL_law 492 = .ok (.iconst 1, 1) := by decide +kernel
theorem dL_law_493 : decode cL_law 493 = .ok (.iadd, 1) := by decide +kernel
theorem dL_law_494 : decode cL_law 494 = .ok (.iaload, 1) := by decide +kernel
theorem dL_law_495 : decode cL_law 495 = .ok (.aload_n 3, 1) := by decide +kernel
theorem dL_law_496 : decode cL_law 496 = .ok (.invokestatic 77, 3) := by decide +kernel
theorem dL_law_499 : decode cL_law 499 = .ok (.istore 5, 2) := by decide +kernel
theorem dL_law_501 : decode cL_law 501 = .ok (.aload_n 2, 1) := by decide +kernel
theorem dL_law_502 : decode cL_law 502 = .ok (.aload_n 0, 1) := by decide +kernel
theorem dL_law_503 : decode cL_law 503 = .ok (.iload 4, 2) := by decide +kernel
theorem dL_law_505 : decode cL_law 505 = .ok (.iconst 1, 1) := by decide +kernel
theorem dL_law_506 : decode cL_law 506 = .ok (.iadd, 1) := by decide +kernel
theorem dL_law_507 : decode cL_law 507 = .ok (.iaload, 1) := by decide +kernel
theorem dL_law_508 : decode cL_law 508 = .ok (.invokevirtual 80, 3) := by decide +kernel
theorem dL_law_511 : decode cL_law 511 = .ok (.istore 6, 2) := by decide +kernel
theorem dL_law_513 : decode cL_law 513 = .ok (.aload_n 2, 1) := by decide +kernel
theorem dL_law_514 : decode cL_law 514 = .ok (.invokevirtual 52, 3) := by decide +kernel
theorem dL_law_517 : decode cL_law 517 = .ok (.iload 5, 2) := by decide +kernel
theorem dL_law_519 : decode cL_law 519 = .ok (.if_icmp .eq 5, 3) := by decide +kernel
theorem dL_law_522 : decode cL_law 522 = .ok (.iconst 0, 1) := by decide +kernel
theorem dL_law_523 : decode cL_law 523 = .ok (.ireturn, 1) := by decide +kernel
theorem dL_law_524 : decode cL_law 524 = .ok (.iload 5, 2) := by decide +kernel
theorem dL_law_526 : decode cL_law 526 = .ok (.ifCond .ne 15, 3) := by decide +kernel
theorem dL_law_529 : decode cL_law 529 = .ok (.aload_n 3, 1) := by decide +kernel
theorem dL_law_530 : decode cL_law 530 = .ok (.iconst 0, 1) := by decide +kernel
theorem dL_law_531 : decode cL_law 531 = .ok (.laload, 1) := by decide +kernel
theorem dL_law_532 : decode cL_law 532 = .ok (.iload 6, 2) := by decide +kernel
theorem dL_law_534 : decode cL_law 534 = .ok (.i2l, 1) := by decide +kernel
theorem dL_law_535 : decode cL_law 535 = .ok (.lcmp, 1) := by decide +kernel
theorem dL_law_536 : decode cL_law 536 = .ok (.ifCond .eq 5, 3) := by decide +kernel
theorem dL_law_539 : decode cL_law 539 = .ok (.iconst 0, 1) := by decide +kernel
theorem dL_law_540 : decode cL_law 540 = .ok (.ireturn, 1) := by decide +kernel
theorem dL_law_541 : decode cL_law 541 = .ok (.goto 3, 3) := by decide +kernel
theorem dL_law_544 : decode cL_law 544 = .ok (.iinc 4 5, 3) := by decide +kernel
theorem dL_law_547 : decode cL_law 547 = .ok (.goto (-524), 3) := by decide +kernel
theorem dL_law_550 : decode cL_law 550 = .ok (.iconst 1, 1) := by decide +kernel
theorem dL_law_551 : decode cL_law 551 = .ok (.ireturn, 1) := by decide +kernel
end
section
/-- the words of every method: those of the tables that a callee may keep -/
def GW : List Cond := lw_tbl.filter goodWord
theorem gw_t {w : Cond} (h : w ∈ tables_1) (g : goodWord w = true) : w ∈ GW := List.mem_filter.mpr ⟨List.mem_append_right _ h, g⟩
theorem gw_1 {w : Cond} (i : Nat) (h : tables_1_1[i]? = some w) (g : goodWord w = true) : w ∈ GW := gw_t (List.mem_append_left _ (List.mem_of_getElem? h)) g
theorem gw_2 {w : Cond} (i : Nat) (h : tables_1_2[i]? = some w) (g : goodWord w = true) : w ∈ GW := gw_t (List.mem_append_right _ (List.mem_append_left _ (List.mem_of_getElem? h))) g
theorem gw_3 {w : Cond} (i : Nat) (h : tables_1_3[i]? = some w) (g : goodWord w = true) : w ∈ GW := gw_t (List.mem_append_right _ (List.mem_append_right _ (List.mem_of_getElem? h))) g
theorem gw_s {q : MethodName × Nat} (h : q ∈ lw_privs) : Cond.selects q.1.cls q.1 q.1 ∈ GW := List.mem_filter.mpr ⟨List.mem_append_left _ (List.mem_map.mpr ⟨q, h, rfl⟩), rfl⟩
theorem kw1_0 : (Cond.initialized "ExchangeRecordsLaw") ∈ GW := gw_1 0 rfl rfl
theorem kw1_1 : (Cond.initialized "ExchangeRecords") ∈ GW := gw_1 1 rfl rfl
theorem kw1_2 : (Cond.initialized "ExchangeRecords$Input") ∈ GW := gw_1 2 rfl rfl
theorem kw1_3 : (Cond.initialized "ExchangeRecords$Output") ∈ GW := gw_1 3 rfl rfl
theorem kw1_4 : (Cond.initialized "ExchangeRecords$Field") ∈ GW := gw_1 4 rfl rfl
theorem kw1_5 : (Cond.initialized "ExchangeRecordsModel") ∈ GW := gw_1 5 rfl rfl
theorem kw1_6 : (Cond.initialized "java/lang/Math") ∈ GW := gw_1 6 rfl rfl
theorem kw1_7 : (Cond.initialized "java/util/Arrays") ∈ GW := gw_1 7 rfl rfl
theorem kw1_8 : (Cond.initialized "java/lang/System") ∈ GW := gw_1 8 rfl rfl
theorem kw1_9 : (Cond.initialized "java/lang/Throwable") ∈ GW := gw_1 9 rfl rfl
theorem kw1_10 : (Cond.initialized "java/lang/Exception") ∈ GW := gw_1 10 rfl rfl
theorem kw1_11 : (Cond.initialized "java/lang/RuntimeException") ∈ GW := gw_1 11 rfl rfl
theorem kw1_12 : (Cond.initialized "java/lang/IndexOutOfBoundsException") ∈ GW := gw_1 12 rfl rfl
theorem kw1_13 : (Cond.initialized "java/lang/ArrayIndexOutOfBoundsException") ∈ GW := gw_1 13 rfl rfl
theorem kw1_14 : (Cond.initialized "java/lang/String") ∈ GW := gw_1 14 rfl rfl
theorem kw1_15 : (Cond.classLink "ExchangeRecordsLaw" (8 : Nat) "ExchangeRecords") ∈ GW := gw_1 15 rfl rfl
theorem kw1_16 : (Cond.instantiable "ExchangeRecords" (8 : Nat)) ∈ GW := gw_1 16 rfl rfl
theorem kw1_17 : (Cond.methodLink "ExchangeRecordsLaw" (19 : Nat) ({ cls := "ExchangeRecords", name := "<init>", desc := "()V" } : Jvm.MethodName)) ∈ GW := gw_1 17 rfl rfl
theorem kw1_18 : (Cond.instanceMethod ({ cls := "ExchangeRecords", name := "<init>", desc := "()V" } : Jvm.MethodName)) ∈ GW := gw_1 18 rfl rfl
theorem kw1_19 : (Cond.code ({ cls := "ExchangeRecords", name := "<init>", desc := "()V" } : Jvm.MethodName) prog_1_method_1_code (2 : Nat) (Option.none : Option Jvm.ClassFile.FieldType)) ∈ GW := gw_1 19 rfl rfl
theorem kw1_20 : (Cond.methodLink "ExchangeRecords" (1 : Nat) ({ cls := "java/lang/Object", name := "<init>", desc := "()V" } : Jvm.MethodName)) ∈ GW := gw_1 20 rfl rfl
theorem kw1_21 : (Cond.instanceMethod ({ cls := "java/lang/Object", name := "<init>", desc := "()V" } : Jvm.MethodName)) ∈ GW := gw_1 21 rfl rfl
theorem kw1_22 : (Cond.code ({ cls := "java/lang/Object", name := "<init>", desc := "()V" } : Jvm.MethodName) object_method_1_code (1 : Nat) (Option.none : Option Jvm.ClassFile.FieldType)) ∈ GW := gw_1 22 rfl rfl
theorem kw1_23 : (Cond.classLink "ExchangeRecords" (7 : Nat) "ExchangeRecords$Input") ∈ GW := gw_1 23 rfl rfl
theorem kw1_24 : (Cond.instantiable "ExchangeRecords$Input" (3 : Nat)) ∈ GW := gw_1 24 rfl rfl
theorem kw1_25 : (Cond.methodLink "ExchangeRecords" (9 : Nat) ({ cls := "ExchangeRecords$Input", name := "<init>", desc := "()V" } : Jvm.MethodName)) ∈ GW := gw_1 25 rfl rfl
theorem kw1_26 : (Cond.instanceMethod ({ cls := "ExchangeRecords$Input", name := "<init>", desc := "()V" } : Jvm.MethodName)) ∈ GW := gw_1 26 rfl rfl
theorem kw1_27 : (Cond.code ({ cls := "ExchangeRecords$Input", name := "<init>", desc := "()V" } : Jvm.MethodName) prog_3_method_1_code (1 : Nat) (Option.none : Option Jvm.ClassFile.FieldType)) ∈ GW := gw_1 27 rfl rfl
theorem kw1_28 : (Cond.methodLink "ExchangeRecords$Input" (3 : Nat) ({ cls := "java/lang/Object", name := "<init>", desc := "()V" } : Jvm.MethodName)) ∈ GW := gw_1 28 rfl rfl
theorem kw1_29 : (Cond.fieldLink "ExchangeRecords$Input" (9 : Nat) "ExchangeRecords$Input" "bytes" "[B") ∈ GW := gw_1 29 rfl rfl
theorem kw1_30 : (Cond.fieldLink "ExchangeRecords$Input" (15 : Nat) "ExchangeRecords$Input" "size" "I") ∈ GW := gw_1 30 rfl rfl
theorem kw1_31 : (Cond.fieldLink "ExchangeRecords$Input" (19 : Nat) "ExchangeRecords$Input" "place" "I") ∈ GW := gw_1 31 rfl rfl
theorem kw1_32 : (Cond.laysFinal "ExchangeRecords$Input" "ExchangeRecords$Input" "bytes" "[B") ∈ GW := gw_1 32 rfl rfl
theorem kw1_33 : (Cond.soleField "ExchangeRecords$Input" "bytes") ∈ GW := gw_1 33 rfl rfl
theorem kw1_34 : (Cond.lays "ExchangeRecords$Input" "ExchangeRecords$Input" "size" "I") ∈ GW := gw_1 34 rfl rfl
theorem kw1_35 : (Cond.soleField "ExchangeRecords$Input" "size") ∈ GW := gw_1 35 rfl rfl
theorem kw1_36 : (Cond.lays "ExchangeRecords$Input" "ExchangeRecords$Input" "place" "I") ∈ GW := gw_1 36 rfl rfl
theorem kw1_37 : (Cond.soleField "ExchangeRecords$Input" "place") ∈ GW := gw_1 37 rfl rfl
theorem kw1_38 : (Cond.superclass "ExchangeRecords$Input" "java/lang/Object") ∈ GW := gw_1 38 rfl rfl
theorem kw1_39 : (Cond.arrayClass Jvm.ClassFile.FieldType.byte) ∈ GW := gw_1 39 rfl rfl
theorem kw1_40 : (Cond.classLink "ExchangeRecords" (16 : Nat) "ExchangeRecords$Output") ∈ GW := gw_1 40 rfl rfl
theorem kw1_41 : (Cond.instantiable "ExchangeRecords$Output" (2 : Nat)) ∈ GW := gw_1 41 rfl rfl
theorem kw1_42 : (Cond.methodLink "ExchangeRecords" (18 : Nat) ({ cls := "ExchangeRecords$Output", name := "<init>", desc := "()V" } : Jvm.MethodName)) ∈ GW := gw_1 42 rfl rfl
theorem kw1_43 : (Cond.instanceMethod ({ cls := "ExchangeRecords$Output", name := "<init>", desc := "()V" } : Jvm.MethodName)) ∈ GW := gw_1 43 rfl rfl
theorem kw1_44 : (Cond.code ({ cls := "ExchangeRecords$Output", name := "<init>", desc := "()V" } : Jvm.MethodName) prog_4_method_1_code (1 : Nat) (Option.none : Option Jvm.ClassFile.FieldType)) ∈ GW := gw_1 44 rfl rfl
theorem kw1_45 : (Cond.methodLink "ExchangeRecords$Output" (1 : Nat) ({ cls := "java/lang/Object", name := "<init>", desc := "()V" } : Jvm.MethodName)) ∈ GW := gw_1 45 rfl rfl
theorem kw1_46 : (Cond.fieldLink "ExchangeRecords$Output" (9 : Nat) "ExchangeRecords$Output" "bytes" "[B") ∈ GW := gw_1 46 rfl rfl
theorem kw1_47 : (Cond.fieldLink "ExchangeRecords$Output" (13 : Nat) "ExchangeRecords$Output" "size" "I") ∈ GW := gw_1 47 rfl rfl
theorem kw1_48 : (Cond.lays "ExchangeRecords$Output" "ExchangeRecords$Output" "bytes" "[B") ∈ GW := gw_1 48 rfl rfl
theorem kw1_49 : (Cond.soleField "ExchangeRecords$Output" "bytes") ∈ GW := gw_1 49 rfl rfl
theorem kw1_50 : (Cond.lays "ExchangeRecords$Output" "ExchangeRecords$Output" "size" "I") ∈ GW := gw_1 50 rfl rfl
theorem kw1_51 : (Cond.soleField "ExchangeRecords$Output" "size") ∈ GW := gw_1 51 rfl rfl
theorem kw1_52 : (Cond.superclass "ExchangeRecords$Output" "java/lang/Object") ∈ GW := gw_1 52 rfl rfl
theorem kw1_53 : (Cond.classLink "ExchangeRecords" (27 : Nat) "ExchangeRecords$Field") ∈ GW := gw_1 53 rfl rfl
theorem kw1_55 : (Cond.instantiable "ExchangeRecords$Field" (6 : Nat)) ∈ GW := gw_1 55 rfl rfl
theorem kw1_56 : (Cond.methodLink "ExchangeRecords" (33 : Nat) ({ cls := "ExchangeRecords$Field", name := "<init>", desc := "()V" } : Jvm.MethodName)) ∈ GW := gw_1 56 rfl rfl
theorem kw1_57 : (Cond.instanceMethod ({ cls := "ExchangeRecords$Field", name := "<init>", desc := "()V" } : Jvm.MethodName)) ∈ GW := gw_1 57 rfl rfl
theorem kw1_58 : (Cond.code ({ cls := "ExchangeRecords$Field", name := "<init>", desc := "()V" } : Jvm.MethodName) prog_2_method_1_code (1 : Nat) (Option.none : Option Jvm.ClassFile.FieldType)) ∈ GW := gw_1 58 rfl rfl
theorem kw1_59 : (Cond.methodLink "ExchangeRecords$Field" (3 : Nat) ({ cls := "java/lang/Object", name := "<init>", desc := "()V" } : Jvm.MethodName)) ∈ GW := gw_1 59 rfl rfl
theorem kw1_60 : (Cond.fieldLink "ExchangeRecords$Field" (15 : Nat) "ExchangeRecords$Field" "tag" "I") ∈ GW := gw_1 60 rfl rfl
theorem kw1_62 : (Cond.fieldLink "ExchangeRecords$Field" (19 : Nat) "ExchangeRecords$Field" "first" "I") ∈ GW := gw_1 62 rfl rfl
theorem kw1_64 : (Cond.fieldLink "ExchangeRecords$Field" (22 : Nat) "ExchangeRecords$Field" "second" "I") ∈ GW := gw_1 64 rfl rfl
theorem kw1_66 : (Cond.fieldLink "ExchangeRecords$Field" (11 : Nat) "ExchangeRecords$Field" "bytes" "[B") ∈ GW := gw_1 66 rfl rfl
theorem kw1_67 : (Cond.fieldLink "ExchangeRecords$Field" (25 : Nat) "ExchangeRecords$Field" "size" "I") ∈ GW := gw_1 67 rfl rfl
theorem kw1_69 : (Cond.fieldLink "ExchangeRecords$Field" (28 : Nat) "ExchangeRecords$Field" "subfields" "I") ∈ GW := gw_1 69 rfl rfl
theorem kw1_70 : (Cond.lays "ExchangeRecords$Field" "ExchangeRecords$Field" "tag" "I") ∈ GW := gw_1 70 rfl rfl
theorem kw1_71 : (Cond.soleField "ExchangeRecords$Field" "tag") ∈ GW := gw_1 71 rfl rfl
theorem kw1_72 : (Cond.lays "ExchangeRecords$Field" "ExchangeRecords$Field" "first" "I") ∈ GW := gw_1 72 rfl rfl
theorem kw1_73 : (Cond.soleField "ExchangeRecords$Field" "first") ∈ GW := gw_1 73 rfl rfl
theorem kw1_74 : (Cond.lays "ExchangeRecords$Field" "ExchangeRecords$Field" "second" "I") ∈ GW := gw_1 74 rfl rfl
theorem kw1_75 : (Cond.soleField "ExchangeRecords$Field" "second") ∈ GW := gw_1 75 rfl rfl
theorem kw1_76 : (Cond.lays "ExchangeRecords$Field" "ExchangeRecords$Field" "bytes" "[B") ∈ GW := gw_1 76 rfl rfl
theorem kw1_77 : (Cond.soleField "ExchangeRecords$Field" "bytes") ∈ GW := gw_1 77 rfl rfl
theorem kw1_78 : (Cond.lays "ExchangeRecords$Field" "ExchangeRecords$Field" "size" "I") ∈ GW := gw_1 78 rfl rfl
theorem kw1_79 : (Cond.soleField "ExchangeRecords$Field" "size") ∈ GW := gw_1 79 rfl rfl
theorem kw1_80 : (Cond.lays "ExchangeRecords$Field" "ExchangeRecords$Field" "subfields" "I") ∈ GW := gw_1 80 rfl rfl
theorem kw1_81 : (Cond.soleField "ExchangeRecords$Field" "subfields") ∈ GW := gw_1 81 rfl rfl
theorem kw1_82 : (Cond.superclass "ExchangeRecords$Field" "java/lang/Object") ∈ GW := gw_1 82 rfl rfl
theorem kw1_83 : (Cond.fieldLink "ExchangeRecords" (10 : Nat) "ExchangeRecords" "input" "LExchangeRecords$Input;") ∈ GW := gw_1 83 rfl rfl
theorem kw1_84 : (Cond.fieldLink "ExchangeRecords" (19 : Nat) "ExchangeRecords" "output" "LExchangeRecords$Output;") ∈ GW := gw_1 84 rfl rfl
theorem kw1_85 : (Cond.fieldLink "ExchangeRecords" (23 : Nat) "ExchangeRecords" "leaderBytes" "[B") ∈ GW := gw_1 85 rfl rfl
theorem kw1_86 : (Cond.fieldLink "ExchangeRecords" (29 : Nat) "ExchangeRecords" "fields" "[LExchangeRecords$Field;") ∈ GW := gw_1 86 rfl rfl
theorem kw1_87 : (Cond.fieldLink "ExchangeRecords" (34 : Nat) "ExchangeRecords" "rows" "[I") ∈ GW := gw_1 87 rfl rfl
theorem kw1_88 : (Cond.fieldLink "ExchangeRecords" (38 : Nat) "ExchangeRecords" "rowCount" "I") ∈ GW := gw_1 88 rfl rfl
theorem kw1_89 : (Cond.fieldLink "ExchangeRecords" (42 : Nat) "ExchangeRecords" "present" "Z") ∈ GW := gw_1 89 rfl rfl
theorem kw1_90 : (Cond.fieldLink "ExchangeRecords" (46 : Nat) "ExchangeRecords" "fieldCount" "I") ∈ GW := gw_1 90 rfl rfl
theorem kw1_91 : (Cond.laysFinal "ExchangeRecords" "ExchangeRecords" "input" "LExchangeRecords$Input;") ∈ GW := gw_1 91 rfl rfl
theorem kw1_92 : (Cond.soleField "ExchangeRecords" "input") ∈ GW := gw_1 92 rfl rfl
theorem kw1_93 : (Cond.laysFinal "ExchangeRecords" "ExchangeRecords" "output" "LExchangeRecords$Output;") ∈ GW := gw_1 93 rfl rfl
theorem kw1_94 : (Cond.soleField "ExchangeRecords" "output") ∈ GW := gw_1 94 rfl rfl
theorem kw1_95 : (Cond.laysFinal "ExchangeRecords" "ExchangeRecords" "leaderBytes" "[B") ∈ GW := gw_1 95 rfl rfl
theorem kw1_96 : (Cond.soleField "ExchangeRecords" "leaderBytes") ∈ GW := gw_1 96 rfl rfl
theorem kw1_97 : (Cond.laysFinal "ExchangeRecords" "ExchangeRecords" "fields" "[LExchangeRecords$Field;") ∈ GW := gw_1 97 rfl rfl
theorem kw1_98 : (Cond.soleField "ExchangeRecords" "fields") ∈ GW := gw_1 98 rfl rfl
theorem kw1_99 : (Cond.laysFinal "ExchangeRecords" "ExchangeRecords" "rows" "[I") ∈ GW := gw_1 99 rfl rfl
theorem kw1_100 : (Cond.soleField "ExchangeRecords" "rows") ∈ GW := gw_1 100 rfl rfl
theorem kw1_101 : (Cond.lays "ExchangeRecords" "ExchangeRecords" "rowCount" "I") ∈ GW := gw_1 101 rfl rfl
theorem kw1_102 : (Cond.soleField "ExchangeRecords" "rowCount") ∈ GW := gw_1 102 rfl rfl
theorem kw1_103 : (Cond.lays "ExchangeRecords" "ExchangeRecords" "present" "Z") ∈ GW := gw_1 103 rfl rfl
theorem kw1_104 : (Cond.soleField "ExchangeRecords" "present") ∈ GW := gw_1 104 rfl rfl
theorem kw1_105 : (Cond.lays "ExchangeRecords" "ExchangeRecords" "fieldCount" "I") ∈ GW := gw_1 105 rfl rfl
theorem kw1_106 : (Cond.soleField "ExchangeRecords" "fieldCount") ∈ GW := gw_1 106 rfl rfl
theorem kw1_107 : (Cond.superclass "ExchangeRecords" "java/lang/Object") ∈ GW := gw_1 107 rfl rfl
theorem kw1_108 : (Cond.arrayClass Jvm.ClassFile.FieldType.int) ∈ GW := gw_1 108 rfl rfl
theorem kw1_109 : (Cond.methodLink "ExchangeRecordsLaw" (23 : Nat) ({ cls := "ExchangeRecords", name := "add", desc := "(B)V" } : Jvm.MethodName)) ∈ GW := gw_1 109 rfl rfl
theorem kw1_110 : (Cond.instanceMethod ({ cls := "ExchangeRecords", name := "add", desc := "(B)V" } : Jvm.MethodName)) ∈ GW := gw_1 110 rfl rfl
theorem kw1_111 : (Cond.selects "ExchangeRecords" ({ cls := "ExchangeRecords", name := "add", desc := "(B)V" } : Jvm.MethodName) ({ cls := "ExchangeRecords", name := "add", desc := "(B)V" } : Jvm.MethodName)) ∈ GW := gw_1 111 rfl rfl
theorem kw1_112 : (Cond.code ({ cls := "ExchangeRecords", name := "add", desc := "(B)V" } : Jvm.MethodName) prog_1_method_2_code (2 : Nat) (Option.none : Option Jvm.ClassFile.FieldType)) ∈ GW := gw_1 112 rfl rfl
theorem kw1_113 : (Cond.methodLink "ExchangeRecords" (49 : Nat) ({ cls := "ExchangeRecords$Input", name := "append", desc := "(B)V" } : Jvm.MethodName)) ∈ GW := gw_1 113 rfl rfl
theorem kw1_114 : (Cond.instanceMethod ({ cls := "ExchangeRecords$Input", name := "append", desc := "(B)V" } : Jvm.MethodName)) ∈ GW := gw_1 114 rfl rfl
theorem kw1_115 : (Cond.selects "ExchangeRecords$Input" ({ cls := "ExchangeRecords$Input", name := "append", desc := "(B)V" } : Jvm.MethodName) ({ cls := "ExchangeRecords$Input", name := "append", desc := "(B)V" } : Jvm.MethodName)) ∈ GW := gw_1 115 rfl rfl
theorem kw1_116 : (Cond.code ({ cls := "ExchangeRecords$Input", name := "append", desc := "(B)V" } : Jvm.MethodName) prog_3_method_2_code (2 : Nat) (Option.none : Option Jvm.ClassFile.FieldType)) ∈ GW := gw_1 116 rfl rfl
theorem kw1_117 : (Cond.methodLink "ExchangeRecordsLaw" (28 : Nat) ({ cls := "ExchangeRecords", name := "read", desc := "()I" } : Jvm.MethodName)) ∈ GW := gw_1 117 rfl rfl
theorem kw1_118 : (Cond.instanceMethod ({ cls := "ExchangeRecords", name := "read", desc := "()I" } : Jvm.MethodName)) ∈ GW := gw_1 118 rfl rfl
theorem kw1_119 : (Cond.selects "ExchangeRecords" ({ cls := "ExchangeRecords", name := "read", desc := "()I" } : Jvm.MethodName) ({ cls := "ExchangeRecords", name := "read", desc := "()I" } : Jvm.MethodName)) ∈ GW := gw_1 119 rfl rfl
theorem kw1_120 : (Cond.code ({ cls := "ExchangeRecords", name := "read", desc := "()I" } : Jvm.MethodName) prog_1_method_3_code (3 : Nat) (Option.some Jvm.ClassFile.FieldType.int)) ∈ GW := gw_1 120 rfl rfl
theorem kw1_121 : (Cond.methodLink "ExchangeRecords" (53 : Nat) ({ cls := "ExchangeRecords$Input", name := "left", desc := "()I" } : Jvm.MethodName)) ∈ GW := gw_1 121 rfl rfl
theorem kw1_122 : (Cond.instanceMethod ({ cls := "ExchangeRecords$Input", name := "left", desc := "()I" } : Jvm.MethodName)) ∈ GW := gw_1 122 rfl rfl
theorem kw1_123 : (Cond.selects "ExchangeRecords$Input" ({ cls := "ExchangeRecords$Input", name := "left", desc := "()I" } : Jvm.MethodName) ({ cls := "ExchangeRecords$Input", name := "left", desc := "()I" } : Jvm.MethodName)) ∈ GW := gw_1 123 rfl rfl
theorem kw1_124 : (Cond.code ({ cls := "ExchangeRecords$Input", name := "left", desc := "()I" } : Jvm.MethodName) prog_3_method_3_code (1 : Nat) (Option.some Jvm.ClassFile.FieldType.int)) ∈ GW := gw_1 124 rfl rfl
theorem kw1_125 : (Cond.methodLink "ExchangeRecords" (57 : Nat) ({ cls := "ExchangeRecords$Input", name := "wrongInTotal", desc := "()I" } : Jvm.MethodName)) ∈ GW := gw_1 125 rfl rfl
theorem kw1_126 : (Cond.instanceMethod ({ cls := "ExchangeRecords$Input", name := "wrongInTotal", desc := "()I" } : Jvm.MethodName)) ∈ GW := gw_1 126 rfl rfl
theorem kw1_127 : (Cond.selects "ExchangeRecords$Input" ({ cls := "ExchangeRecords$Input", name := "wrongInTotal", desc := "()I" } : Jvm.MethodName) ({ cls := "ExchangeRecords$Input", name := "wrongInTotal", desc := "()I" } : Jvm.MethodName)) ∈ GW := gw_1 127 rfl rfl
theorem kw1_128 : (Cond.code ({ cls := "ExchangeRecords$Input", name := "wrongInTotal", desc := "()I" } : Jvm.MethodName) prog_3_method_7_code (2 : Nat) (Option.some Jvm.ClassFile.FieldType.int)) ∈ GW := gw_1 128 rfl rfl
theorem kw1_129 : (Cond.methodLink "ExchangeRecords$Input" (26 : Nat) ({ cls := "ExchangeRecords$Input", name := "wrongDigit", desc := "(II)I" } : Jvm.MethodName)) ∈ GW := gw_1 129 rfl rfl
theorem kw1_131 : (Cond.instanceMethod ({ cls := "ExchangeRecords$Input", name := "wrongDigit", desc := "(II)I" } : Jvm.MethodName)) ∈ GW := gw_1 131 rfl rfl
theorem kw1_132 : (Cond.code ({ cls := "ExchangeRecords$Input", name := "wrongDigit", desc := "(II)I" } : Jvm.MethodName) prog_3_method_14_code (4 : Nat) (Option.some Jvm.ClassFile.FieldType.int)) ∈ GW := gw_1 132 rfl rfl
theorem kw1_133 : (Cond.methodLink "ExchangeRecords$Input" (22 : Nat) ({ cls := "ExchangeRecords$Input", name := "at", desc := "(I)I" } : Jvm.MethodName)) ∈ GW := gw_1 133 rfl rfl
theorem kw1_134 : (Cond.instanceMethod ({ cls := "ExchangeRecords$Input", name := "at", desc := "(I)I" } : Jvm.MethodName)) ∈ GW := gw_1 134 rfl rfl
theorem kw1_135 : (Cond.selects "ExchangeRecords$Input" ({ cls := "ExchangeRecords$Input", name := "at", desc := "(I)I" } : Jvm.MethodName) ({ cls := "ExchangeRecords$Input", name := "at", desc := "(I)I" } : Jvm.MethodName)) ∈ GW := gw_1 135 rfl rfl
theorem kw1_136 : (Cond.code ({ cls := "ExchangeRecords$Input", name := "at", desc := "(I)I" } : Jvm.MethodName) prog_3_method_5_code (2 : Nat) (Option.some Jvm.ClassFile.FieldType.int)) ∈ GW := gw_1 136 rfl rfl
theorem kw1_138 : (Cond.static ({ cls := "ExchangeRecords", name := "isDigit", desc := "(I)Z" } : Jvm.MethodName)) ∈ GW := gw_1 138 rfl rfl
theorem kw1_139 : (Cond.code ({ cls := "ExchangeRecords", name := "isDigit", desc := "(I)Z" } : Jvm.MethodName) prog_1_method_15_code (1 : Nat) (Option.some Jvm.ClassFile.FieldType.boolean)) ∈ GW := gw_1 139 rfl rfl
theorem kw1_140 : (Cond.methodLink "ExchangeRecords$Input" (30 : Nat) ({ cls := "ExchangeRecords$Input", name := "number", desc := "(II)I" } : Jvm.MethodName)) ∈ GW := gw_1 140 rfl rfl
theorem kw1_141 : (Cond.instanceMethod ({ cls := "ExchangeRecords$Input", name := "number", desc := "(II)I" } : Jvm.MethodName)) ∈ GW := gw_1 141 rfl rfl
theorem kw1_142 : (Cond.selects "ExchangeRecords$Input" ({ cls := "ExchangeRecords$Input", name := "number", desc := "(II)I" } : Jvm.MethodName) ({ cls := "ExchangeRecords$Input", name := "number", desc := "(II)I" } : Jvm.MethodName)) ∈ GW := gw_1 142 rfl rfl
theorem kw1_143 : (Cond.code ({ cls := "ExchangeRecords$Input", name := "number", desc := "(II)I" } : Jvm.MethodName) prog_3_method_6_code (5 : Nat) (Option.some Jvm.ClassFile.FieldType.int)) ∈ GW := gw_1 143 rfl rfl
theorem kw1_144 : (Cond.methodLink "ExchangeRecords" (60 : Nat) ({ cls := "ExchangeRecords", name := "refuse", desc := "(II)I" } : Jvm.MethodName)) ∈ GW := gw_1 144 rfl rfl
theorem kw1_146 : (Cond.instanceMethod ({ cls := "ExchangeRecords", name := "refuse", desc := "(II)I" } : Jvm.MethodName)) ∈ GW := gw_1 146 rfl rfl
theorem kw1_147 : (Cond.code ({ cls := "ExchangeRecords", name := "refuse", desc := "(II)I" } : Jvm.MethodName) prog_1_method_20_code (3 : Nat) (Option.some Jvm.ClassFile.FieldType.int)) ∈ GW := gw_1 147 rfl rfl
theorem kw1_148 : (Cond.methodLink "ExchangeRecords" (74 : Nat) ({ cls := "ExchangeRecords$Input", name := "skip", desc := "(I)V" } : Jvm.MethodName)) ∈ GW := gw_1 148 rfl rfl
theorem kw1_149 : (Cond.instanceMethod ({ cls := "ExchangeRecords$Input", name := "skip", desc := "(I)V" } : Jvm.MethodName)) ∈ GW := gw_1 149 rfl rfl
theorem kw1_150 : (Cond.selects "ExchangeRecords$Input" ({ cls := "ExchangeRecords$Input", name := "skip", desc := "(I)V" } : Jvm.MethodName) ({ cls := "ExchangeRecords$Input", name := "skip", desc := "(I)V" } : Jvm.MethodName)) ∈ GW := gw_1 150 rfl rfl
theorem kw1_151 : (Cond.code ({ cls := "ExchangeRecords$Input", name := "skip", desc := "(I)V" } : Jvm.MethodName) prog_3_method_4_code (2 : Nat) (Option.none : Option Jvm.ClassFile.FieldType)) ∈ GW := gw_1 151 rfl rfl
theorem kw1_152 : (Cond.methodLink "ExchangeRecords" (64 : Nat) ({ cls := "ExchangeRecords$Input", name := "number", desc := "(II)I" } : Jvm.MethodName)) ∈ GW := gw_1 152 rfl rfl
theorem kw1_153 : (Cond.methodLink "ExchangeRecords" (67 : Nat) ({ cls := "ExchangeRecords$Input", name := "wrongInRecord", desc := "(I)I" } : Jvm.MethodName)) ∈ GW := gw_1 153 rfl rfl
theorem kw1_154 : (Cond.instanceMethod ({ cls := "ExchangeRecords$Input", name := "wrongInRecord", desc := "(I)I" } : Jvm.MethodName)) ∈ GW := gw_1 154 rfl rfl
theorem kw1_155 : (Cond.selects "ExchangeRecords$Input" ({ cls := "ExchangeRecords$Input", name := "wrongInRecord", desc := "(I)I" } : Jvm.MethodName) ({ cls := "ExchangeRecords$Input", name := "wrongInRecord", desc := "(I)I" } : Jvm.MethodName)) ∈ GW := gw_1 155 rfl rfl
theorem kw1_156 : (Cond.code ({ cls := "ExchangeRecords$Input", name := "wrongInRecord", desc := "(I)I" } : Jvm.MethodName) prog_3_method_8_code (6 : Nat) (Option.some Jvm.ClassFile.FieldType.int)) ∈ GW := gw_1 156 rfl rfl
theorem kw1_157 : (Cond.methodLink "ExchangeRecords$Input" (33 : Nat) ({ cls := "ExchangeRecords$Input", name := "wrongInLeader", desc := "(I)I" } : Jvm.MethodName)) ∈ GW := gw_1 157 rfl rfl
theorem kw1_159 : (Cond.instanceMethod ({ cls := "ExchangeRecords$Input", name := "wrongInLeader", desc := "(I)I" } : Jvm.MethodName)) ∈ GW := gw_1 159 rfl rfl
theorem kw1_160 : (Cond.code ({ cls := "ExchangeRecords$Input", name := "wrongInLeader", desc := "(I)I" } : Jvm.MethodName) prog_3_method_9_code (5 : Nat) (Option.some Jvm.ClassFile.FieldType.int)) ∈ GW := gw_1 160 rfl rfl
theorem kw1_162 : (Cond.static ({ cls := "ExchangeRecords", name := "fixedByte", desc := "(I)I" } : Jvm.MethodName)) ∈ GW := gw_1 162 rfl rfl
theorem kw1_163 : (Cond.code ({ cls := "ExchangeRecords", name := "fixedByte", desc := "(I)I" } : Jvm.MethodName) prog_1_method_17_code (1 : Nat) (Option.some Jvm.ClassFile.FieldType.int)) ∈ GW := gw_1 163 rfl rfl
theorem kw1_164 : (Cond.methodLink "ExchangeRecords$Input" (36 : Nat) ({ cls := "ExchangeRecords$Input", name := "wrongInRow", desc := "(III)I" } : Jvm.MethodName)) ∈ GW := gw_1 164 rfl rfl
theorem kw1_166 : (Cond.instanceMethod ({ cls := "ExchangeRecords$Input", name := "wrongInRow", desc := "(III)I" } : Jvm.MethodName)) ∈ GW := gw_1 166 rfl rfl
theorem kw1_167 : (Cond.code ({ cls := "ExchangeRecords$Input", name := "wrongInRow", desc := "(III)I" } : Jvm.MethodName) prog_3_method_10_code (10 : Nat) (Option.some Jvm.ClassFile.FieldType.int)) ∈ GW := gw_1 167 rfl rfl
theorem kw1_169 : (Cond.static ({ cls := "ExchangeRecords", name := "isControl", desc := "(I)Z" } : Jvm.MethodName)) ∈ GW := gw_1 169 rfl rfl
theorem kw1_170 : (Cond.code ({ cls := "ExchangeRecords", name := "isControl", desc := "(I)Z" } : Jvm.MethodName) prog_1_method_16_code (1 : Nat) (Option.some Jvm.ClassFile.FieldType.boolean)) ∈ GW := gw_1 170 rfl rfl
theorem kw1_171 : (Cond.methodLink "ExchangeRecords$Input" (47 : Nat) ({ cls := "ExchangeRecords$Input", name := "wrongInControlField", desc := "(II)I" } : Jvm.MethodName)) ∈ GW := gw_1 171 rfl rfl
theorem kw1_173 : (Cond.instanceMethod ({ cls := "ExchangeRecords$Input", name := "wrongInControlField", desc := "(II)I" } : Jvm.MethodName)) ∈ GW := gw_1 173 rfl rfl
theorem kw1_174 : (Cond.code ({ cls := "ExchangeRecords$Input", name := "wrongInControlField", desc := "(II)I" } : Jvm.MethodName) prog_3_method_11_code (4 : Nat) (Option.some Jvm.ClassFile.FieldType.int)) ∈ GW := gw_1 174 rfl rfl
theorem kw1_175 : (Cond.methodLink "ExchangeRecords$Input" (53 : Nat) ({ cls := "ExchangeRecords$Input", name := "firstMark", desc := "(II)I" } : Jvm.MethodName)) ∈ GW := gw_1 175 rfl rfl
theorem kw1_177 : (Cond.instanceMethod ({ cls := "ExchangeRecords$Input", name := "firstMark", desc := "(II)I" } : Jvm.MethodName)) ∈ GW := gw_1 177 rfl rfl
theorem kw1_178 : (Cond.code ({ cls := "ExchangeRecords$Input", name := "firstMark", desc := "(II)I" } : Jvm.MethodName) prog_3_method_15_code (4 : Nat) (Option.some Jvm.ClassFile.FieldType.int)) ∈ GW := gw_1 178 rfl rfl
theorem kw1_180 : (Cond.static ({ cls := "ExchangeRecords", name := "isMark", desc := "(I)Z" } : Jvm.MethodName)) ∈ GW := gw_1 180 rfl rfl
theorem kw1_181 : (Cond.code ({ cls := "ExchangeRecords", name := "isMark", desc := "(I)Z" } : Jvm.MethodName) prog_1_method_14_code (1 : Nat) (Option.some Jvm.ClassFile.FieldType.boolean)) ∈ GW := gw_1 181 rfl rfl
theorem kw1_182 : (Cond.methodLink "ExchangeRecords$Input" (56 : Nat) ({ cls := "ExchangeRecords$Input", name := "wrongEnd", desc := "(I)I" } : Jvm.MethodName)) ∈ GW := gw_1 182 rfl rfl
theorem kw1_184 : (Cond.instanceMethod ({ cls := "ExchangeRecords$Input", name := "wrongEnd", desc := "(I)I" } : Jvm.MethodName)) ∈ GW := gw_1 184 rfl rfl
theorem kw1_185 : (Cond.code ({ cls := "ExchangeRecords$Input", name := "wrongEnd", desc := "(I)I" } : Jvm.MethodName) prog_3_method_13_code (2 : Nat) (Option.some Jvm.ClassFile.FieldType.int)) ∈ GW := gw_1 185 rfl rfl
theorem kw1_186 : (Cond.methodLink "ExchangeRecords$Input" (50 : Nat) ({ cls := "ExchangeRecords$Input", name := "wrongInOtherField", desc := "(II)I" } : Jvm.MethodName)) ∈ GW := gw_1 186 rfl rfl
theorem kw1_188 : (Cond.instanceMethod ({ cls := "ExchangeRecords$Input", name := "wrongInOtherField", desc := "(II)I" } : Jvm.MethodName)) ∈ GW := gw_1 188 rfl rfl
theorem kw1_189 : (Cond.code ({ cls := "ExchangeRecords$Input", name := "wrongInOtherField", desc := "(II)I" } : Jvm.MethodName) prog_3_method_12_code (7 : Nat) (Option.some Jvm.ClassFile.FieldType.int)) ∈ GW := gw_1 189 rfl rfl
theorem kw1_190 : (Cond.methodLink "ExchangeRecords" (71 : Nat) ({ cls := "ExchangeRecords", name := "takeRecord", desc := "()V" } : Jvm.MethodName)) ∈ GW := gw_1 190 rfl rfl
theorem kw1_192 : (Cond.instanceMethod ({ cls := "ExchangeRecords", name := "takeRecord", desc := "()V" } : Jvm.MethodName)) ∈ GW := gw_1 192 rfl rfl
theorem kw1_193 : (Cond.code ({ cls := "ExchangeRecords", name := "takeRecord", desc := "()V" } : Jvm.MethodName) prog_1_method_21_code (3 : Nat) (Option.none : Option Jvm.ClassFile.FieldType)) ∈ GW := gw_1 193 rfl rfl
theorem kw1_194 : (Cond.methodLink "ExchangeRecords" (169 : Nat) ({ cls := "ExchangeRecords$Input", name := "at", desc := "(I)I" } : Jvm.MethodName)) ∈ GW := gw_1 194 rfl rfl
theorem kw1_195 : (Cond.methodLink "ExchangeRecords" (170 : Nat) ({ cls := "java/lang/Math", name := "min", desc := "(II)I" } : Jvm.MethodName)) ∈ GW := gw_1 195 rfl rfl
theorem kw1_196 : (Cond.static ({ cls := "java/lang/Math", name := "min", desc := "(II)I" } : Jvm.MethodName)) ∈ GW := gw_1 196 rfl rfl
theorem kw1_197 : (Cond.code ({ cls := "java/lang/Math", name := "min", desc := "(II)I" } : Jvm.MethodName) prog_11_method_69_code (2 : Nat) (Option.some Jvm.ClassFile.FieldType.int)) ∈ GW := gw_1 197 rfl rfl
theorem kw1_198 : (Cond.methodLink "ExchangeRecords" (175 : Nat) ({ cls := "ExchangeRecords", name := "takeRow", desc := "(II)V" } : Jvm.MethodName)) ∈ GW := gw_1 198 rfl rfl
theorem kw1_200 : (Cond.instanceMethod ({ cls := "ExchangeRecords", name := "takeRow", desc := "(II)V" } : Jvm.MethodName)) ∈ GW := gw_1 200 rfl rfl
theorem kw1_201 : (Cond.code ({ cls := "ExchangeRecords", name := "takeRow", desc := "(II)V" } : Jvm.MethodName) prog_1_method_22_code (7 : Nat) (Option.none : Option Jvm.ClassFile.FieldType)) ∈ GW := gw_1 201 rfl rfl
theorem kw1_202 : (Cond.methodLink "ExchangeRecords" (178 : Nat) ({ cls := "ExchangeRecords", name := "takeField", desc := "(LExchangeRecords$Field;III)V" } : Jvm.MethodName)) ∈ GW := gw_1 202 rfl rfl
theorem kw1_204 : (Cond.instanceMethod ({ cls := "ExchangeRecords", name := "takeField", desc := "(LExchangeRecords$Field;III)V" } : Jvm.MethodName)) ∈ GW := gw_1 204 rfl rfl
theorem kw1_205 : (Cond.code ({ cls := "ExchangeRecords", name := "takeField", desc := "(LExchangeRecords$Field;III)V" } : Jvm.MethodName) prog_1_method_23_code (6 : Nat) (Option.none : Option Jvm.ClassFile.FieldType)) ∈ GW := gw_1 205 rfl rfl
theorem kw1_206 : (Cond.methodLink "ExchangeRecords" (85 : Nat) ({ cls := "ExchangeRecords", name := "isControl", desc := "(I)Z" } : Jvm.MethodName)) ∈ GW := gw_1 206 rfl rfl
theorem kw1_207 : (Cond.methodLink "ExchangeRecords" (120 : Nat) ({ cls := "ExchangeRecords$Field", name := "begin", desc := "(III)V" } : Jvm.MethodName)) ∈ GW := gw_1 207 rfl rfl
theorem kw1_208 : (Cond.instanceMethod ({ cls := "ExchangeRecords$Field", name := "begin", desc := "(III)V" } : Jvm.MethodName)) ∈ GW := gw_1 208 rfl rfl
theorem kw1_209 : (Cond.selects "ExchangeRecords$Field" ({ cls := "ExchangeRecords$Field", name := "begin", desc := "(III)V" } : Jvm.MethodName) ({ cls := "ExchangeRecords$Field", name := "begin", desc := "(III)V" } : Jvm.MethodName)) ∈ GW := gw_1 209 rfl rfl
theorem kw1_210 : (Cond.code ({ cls := "ExchangeRecords$Field", name := "begin", desc := "(III)V" } : Jvm.MethodName) prog_2_method_2_code (4 : Nat) (Option.none : Option Jvm.ClassFile.FieldType)) ∈ GW := gw_1 210 rfl rfl
theorem kw1_211 : (Cond.methodLink "ExchangeRecords" (133 : Nat) ({ cls := "ExchangeRecords$Field", name := "append", desc := "(I)V" } : Jvm.MethodName)) ∈ GW := gw_1 211 rfl rfl
theorem kw1_212 : (Cond.instanceMethod ({ cls := "ExchangeRecords$Field", name := "append", desc := "(I)V" } : Jvm.MethodName)) ∈ GW := gw_1 212 rfl rfl
theorem kw1_213 : (Cond.selects "ExchangeRecords$Field" ({ cls := "ExchangeRecords$Field", name := "append", desc := "(I)V" } : Jvm.MethodName) ({ cls := "ExchangeRecords$Field", name := "append", desc := "(I)V" } : Jvm.MethodName)) ∈ GW := gw_1 213 rfl rfl
theorem kw1_214 : (Cond.code ({ cls := "ExchangeRecords$Field", name := "append", desc := "(I)V" } : Jvm.MethodName) prog_2_method_3_code (2 : Nat) (Option.none : Option Jvm.ClassFile.FieldType)) ∈ GW := gw_1 214 rfl rfl
theorem kw1_215 : (Cond.methodLink "ExchangeRecords$Field" (31 : Nat) ({ cls := "java/util/Arrays", name := "copyOf", desc := "([BI)[B" } : Jvm.MethodName)) ∈ GW := gw_1 215 rfl rfl
theorem kw1_216 : (Cond.static ({ cls := "java/util/Arrays", name := "copyOf", desc := "([BI)[B" } : Jvm.MethodName)) ∈ GW := gw_1 216 rfl rfl
theorem kw1_217 : (Cond.code ({ cls := "java/util/Arrays", name := "copyOf", desc := "([BI)[B" } : Jvm.MethodName) prog_16_method_121_code (3 : Nat) (Option.some (Jvm.ClassFile.FieldType.array Jvm.ClassFile.FieldType.byte))) ∈ GW := gw_1 217 rfl rfl
theorem kw1_218 : (Cond.methodLink "java/util/Arrays" (310 : Nat) ({ cls := "[B", name := "clone", desc := "()Ljava/lang/Object;" } : Jvm.MethodName)) ∈ GW := gw_1 218 rfl rfl
theorem kw1_219 : (Cond.sameMethod "[B" "java/lang/Object" "clone" "()Ljava/lang/Object;") ∈ GW := gw_1 219 rfl rfl
theorem kw1_220 : (Cond.native ({ cls := "java/lang/Object", name := "clone", desc := "()Ljava/lang/Object;" } : Jvm.MethodName)) ∈ GW := gw_1 220 rfl rfl
theorem kw1_221 : (Cond.instanceMethod ({ cls := "java/lang/Object", name := "clone", desc := "()Ljava/lang/Object;" } : Jvm.MethodName)) ∈ GW := gw_1 221 rfl rfl
theorem kw1_222 : (Cond.selects "[B" ({ cls := "[B", name := "clone", desc := "()Ljava/lang/Object;" } : Jvm.MethodName) ({ cls := "java/lang/Object", name := "clone", desc := "()Ljava/lang/Object;" } : Jvm.MethodName)) ∈ GW := gw_1 222 rfl rfl
theorem kw1_224 : (Cond.classLink "java/util/Arrays" (311 : Nat) "[B") ∈ GW := gw_1 224 rfl rfl
theorem kw1_225 : (Cond.methodLink "java/util/Arrays" (304 : Nat) ({ cls := "java/lang/Math", name := "min", desc := "(II)I" } : Jvm.MethodName)) ∈ GW := gw_1 225 rfl rfl
theorem kw1_226 : (Cond.methodLink "java/util/Arrays" (150 : Nat) ({ cls := "java/lang/System", name := "arraycopy", desc := "(Ljava/lang/Object;ILjava/lang/Object;II)V" } : Jvm.MethodName)) ∈ GW := gw_1 226 rfl rfl
theorem kw1_227 : (Cond.static ({ cls := "java/lang/System", name := "arraycopy", desc := "(Ljava/lang/Object;ILjava/lang/Object;II)V" } : Jvm.MethodName)) ∈ GW := gw_1 227 rfl rfl
theorem kw1_228 : (Cond.native ({ cls := "java/lang/System", name := "arraycopy", desc := "(Ljava/lang/Object;ILjava/lang/Object;II)V" } : Jvm.MethodName)) ∈ GW := gw_1 228 rfl rfl
theorem kw1_229 : (Cond.methodLink "ExchangeRecordsLaw" (33 : Nat) ({ cls := "ExchangeRecords", name := "field", desc := "(II)I" } : Jvm.MethodName)) ∈ GW := gw_1 229 rfl rfl
theorem kw1_230 : (Cond.instanceMethod ({ cls := "ExchangeRecords", name := "field", desc := "(II)I" } : Jvm.MethodName)) ∈ GW := gw_1 230 rfl rfl
theorem kw1_231 : (Cond.selects "ExchangeRecords" ({ cls := "ExchangeRecords", name := "field", desc := "(II)I" } : Jvm.MethodName) ({ cls := "ExchangeRecords", name := "field", desc := "(II)I" } : Jvm.MethodName)) ∈ GW := gw_1 231 rfl rfl
theorem kw1_232 : (Cond.code ({ cls := "ExchangeRecords", name := "field", desc := "(II)I" } : Jvm.MethodName) prog_1_method_4_code (5 : Nat) (Option.some Jvm.ClassFile.FieldType.int)) ∈ GW := gw_1 232 rfl rfl
theorem kw1_233 : (Cond.methodLink "ExchangeRecordsLaw" (37 : Nat) ({ cls := "ExchangeRecords", name := "indicator", desc := "(II)I" } : Jvm.MethodName)) ∈ GW := gw_1 233 rfl rfl
theorem kw1_234 : (Cond.instanceMethod ({ cls := "ExchangeRecords", name := "indicator", desc := "(II)I" } : Jvm.MethodName)) ∈ GW := gw_1 234 rfl rfl
theorem kw1_235 : (Cond.selects "ExchangeRecords" ({ cls := "ExchangeRecords", name := "indicator", desc := "(II)I" } : Jvm.MethodName) ({ cls := "ExchangeRecords", name := "indicator", desc := "(II)I" } : Jvm.MethodName)) ∈ GW := gw_1 235 rfl rfl
theorem kw1_236 : (Cond.code ({ cls := "ExchangeRecords", name := "indicator", desc := "(II)I" } : Jvm.MethodName) prog_1_method_5_code (4 : Nat) (Option.some Jvm.ClassFile.FieldType.int)) ∈ GW := gw_1 236 rfl rfl
theorem kw1_237 : (Cond.methodLink "ExchangeRecords" (81 : Nat) ({ cls := "ExchangeRecords", name := "numbered", desc := "(I)LExchangeRecords$Field;" } : Jvm.MethodName)) ∈ GW := gw_1 237 rfl rfl
theorem kw1_239 : (Cond.instanceMethod ({ cls := "ExchangeRecords", name := "numbered", desc := "(I)LExchangeRecords$Field;" } : Jvm.MethodName)) ∈ GW := gw_1 239 rfl rfl
theorem kw2_0 : (Cond.code ({ cls := "ExchangeRecords", name := "numbered", desc := "(I)LExchangeRecords$Field;" } : Jvm.MethodName) prog_1_method_19_code (2 : Nat) (Option.some (Jvm.ClassFile.FieldType.object "ExchangeRecords$Field"))) ∈ GW := gw_2 0 rfl rfl
theorem kw2_1 : (Cond.methodLink "ExchangeRecordsLaw" (41 : Nat) ({ cls := "ExchangeRecords", name := "subfield", desc := "(IIII)I" } : Jvm.MethodName)) ∈ GW := gw_2 1 rfl rfl
theorem kw2_2 : (Cond.instanceMethod ({ cls := "ExchangeRecords", name := "subfield", desc := "(IIII)I" } : Jvm.MethodName)) ∈ GW := gw_2 2 rfl rfl
theorem kw2_3 : (Cond.selects "ExchangeRecords" ({ cls := "ExchangeRecords", name := "subfield", desc := "(IIII)I" } : Jvm.MethodName) ({ cls := "ExchangeRecords", name := "subfield", desc := "(IIII)I" } : Jvm.MethodName)) ∈ GW := gw_2 3 rfl rfl
theorem kw2_4 : (Cond.code ({ cls := "ExchangeRecords", name := "subfield", desc := "(IIII)I" } : Jvm.MethodName) prog_1_method_6_code (7 : Nat) (Option.some Jvm.ClassFile.FieldType.int)) ∈ GW := gw_2 4 rfl rfl
theorem kw2_5 : (Cond.methodLink "ExchangeRecords" (95 : Nat) ({ cls := "ExchangeRecords$Field", name := "at", desc := "(I)I" } : Jvm.MethodName)) ∈ GW := gw_2 5 rfl rfl
theorem kw2_6 : (Cond.instanceMethod ({ cls := "ExchangeRecords$Field", name := "at", desc := "(I)I" } : Jvm.MethodName)) ∈ GW := gw_2 6 rfl rfl
theorem kw2_7 : (Cond.selects "ExchangeRecords$Field" ({ cls := "ExchangeRecords$Field", name := "at", desc := "(I)I" } : Jvm.MethodName) ({ cls := "ExchangeRecords$Field", name := "at", desc := "(I)I" } : Jvm.MethodName)) ∈ GW := gw_2 7 rfl rfl
theorem kw2_8 : (Cond.code ({ cls := "ExchangeRecords$Field", name := "at", desc := "(I)I" } : Jvm.MethodName) prog_2_method_4_code (2 : Nat) (Option.some Jvm.ClassFile.FieldType.int)) ∈ GW := gw_2 8 rfl rfl
theorem kw2_9 : (Cond.methodLink "ExchangeRecords" (98 : Nat) ({ cls := "ExchangeRecords$Field", name := "subfieldStart", desc := "(II)I" } : Jvm.MethodName)) ∈ GW := gw_2 9 rfl rfl
theorem kw2_10 : (Cond.instanceMethod ({ cls := "ExchangeRecords$Field", name := "subfieldStart", desc := "(II)I" } : Jvm.MethodName)) ∈ GW := gw_2 10 rfl rfl
theorem kw2_11 : (Cond.selects "ExchangeRecords$Field" ({ cls := "ExchangeRecords$Field", name := "subfieldStart", desc := "(II)I" } : Jvm.MethodName) ({ cls := "ExchangeRecords$Field", name := "subfieldStart", desc := "(II)I" } : Jvm.MethodName)) ∈ GW := gw_2 11 rfl rfl
theorem kw2_12 : (Cond.code ({ cls := "ExchangeRecords$Field", name := "subfieldStart", desc := "(II)I" } : Jvm.MethodName) prog_2_method_8_code (5 : Nat) (Option.some Jvm.ClassFile.FieldType.int)) ∈ GW := gw_2 12 rfl rfl
theorem kw2_13 : (Cond.methodLink "ExchangeRecords$Field" (45 : Nat) ({ cls := "ExchangeRecords$Field", name := "at", desc := "(I)I" } : Jvm.MethodName)) ∈ GW := gw_2 13 rfl rfl
theorem kw2_14 : (Cond.methodLink "ExchangeRecords" (101 : Nat) ({ cls := "ExchangeRecords$Field", name := "subfieldEnd", desc := "(I)I" } : Jvm.MethodName)) ∈ GW := gw_2 14 rfl rfl
theorem kw2_15 : (Cond.instanceMethod ({ cls := "ExchangeRecords$Field", name := "subfieldEnd", desc := "(I)I" } : Jvm.MethodName)) ∈ GW := gw_2 15 rfl rfl
theorem kw2_16 : (Cond.selects "ExchangeRecords$Field" ({ cls := "ExchangeRecords$Field", name := "subfieldEnd", desc := "(I)I" } : Jvm.MethodName) ({ cls := "ExchangeRecords$Field", name := "subfieldEnd", desc := "(I)I" } : Jvm.MethodName)) ∈ GW := gw_2 16 rfl rfl
theorem kw2_17 : (Cond.code ({ cls := "ExchangeRecords$Field", name := "subfieldEnd", desc := "(I)I" } : Jvm.MethodName) prog_2_method_9_code (3 : Nat) (Option.some Jvm.ClassFile.FieldType.int)) ∈ GW := gw_2 17 rfl rfl
theorem kw2_18 : (Cond.methodLink "ExchangeRecordsLaw" (55 : Nat) ({ cls := "ExchangeRecords", name := "length", desc := "()I" } : Jvm.MethodName)) ∈ GW := gw_2 18 rfl rfl
theorem kw2_19 : (Cond.instanceMethod ({ cls := "ExchangeRecords", name := "length", desc := "()I" } : Jvm.MethodName)) ∈ GW := gw_2 19 rfl rfl
theorem kw2_20 : (Cond.selects "ExchangeRecords" ({ cls := "ExchangeRecords", name := "length", desc := "()I" } : Jvm.MethodName) ({ cls := "ExchangeRecords", name := "length", desc := "()I" } : Jvm.MethodName)) ∈ GW := gw_2 20 rfl rfl
theorem kw2_21 : (Cond.code ({ cls := "ExchangeRecords", name := "length", desc := "()I" } : Jvm.MethodName) prog_1_method_8_code (1 : Nat) (Option.some Jvm.ClassFile.FieldType.int)) ∈ GW := gw_2 21 rfl rfl
theorem kw2_22 : (Cond.methodLink "ExchangeRecordsLaw" (59 : Nat) ({ cls := "ExchangeRecords", name := "leader", desc := "(II)Z" } : Jvm.MethodName)) ∈ GW := gw_2 22 rfl rfl
theorem kw2_23 : (Cond.instanceMethod ({ cls := "ExchangeRecords", name := "leader", desc := "(II)Z" } : Jvm.MethodName)) ∈ GW := gw_2 23 rfl rfl
theorem kw2_24 : (Cond.selects "ExchangeRecords" ({ cls := "ExchangeRecords", name := "leader", desc := "(II)Z" } : Jvm.MethodName) ({ cls := "ExchangeRecords", name := "leader", desc := "(II)Z" } : Jvm.MethodName)) ∈ GW := gw_2 24 rfl rfl
theorem kw2_25 : (Cond.code ({ cls := "ExchangeRecords", name := "leader", desc := "(II)Z" } : Jvm.MethodName) prog_1_method_9_code (3 : Nat) (Option.some Jvm.ClassFile.FieldType.boolean)) ∈ GW := gw_2 25 rfl rfl
theorem kw2_26 : (Cond.methodLink "ExchangeRecords" (111 : Nat) ({ cls := "ExchangeRecords", name := "isFree", desc := "(I)Z" } : Jvm.MethodName)) ∈ GW := gw_2 26 rfl rfl
theorem kw2_27 : (Cond.static ({ cls := "ExchangeRecords", name := "isFree", desc := "(I)Z" } : Jvm.MethodName)) ∈ GW := gw_2 27 rfl rfl
theorem kw2_28 : (Cond.code ({ cls := "ExchangeRecords", name := "isFree", desc := "(I)Z" } : Jvm.MethodName) prog_1_method_18_code (3 : Nat) (Option.some Jvm.ClassFile.FieldType.boolean)) ∈ GW := gw_2 28 rfl rfl
theorem kw2_29 : (Cond.methodLink "ExchangeRecords" (166 : Nat) ({ cls := "ExchangeRecords", name := "fixedByte", desc := "(I)I" } : Jvm.MethodName)) ∈ GW := gw_2 29 rfl rfl
theorem kw2_30 : (Cond.methodLink "ExchangeRecords" (114 : Nat) ({ cls := "java/util/Arrays", name := "fill", desc := "([BB)V" } : Jvm.MethodName)) ∈ GW := gw_2 30 rfl rfl
theorem kw2_31 : (Cond.static ({ cls := "java/util/Arrays", name := "fill", desc := "([BB)V" } : Jvm.MethodName)) ∈ GW := gw_2 31 rfl rfl
theorem kw2_32 : (Cond.code ({ cls := "java/util/Arrays", name := "fill", desc := "([BB)V" } : Jvm.MethodName) prog_16_method_109_code (4 : Nat) (Option.none : Option Jvm.ClassFile.FieldType)) ∈ GW := gw_2 32 rfl rfl
theorem kw2_33 : (Cond.methodLink "ExchangeRecordsLaw" (64 : Nat) ({ cls := "ExchangeRecords", name := "put", desc := "(II)I" } : Jvm.MethodName)) ∈ GW := gw_2 33 rfl rfl
theorem kw2_34 : (Cond.instanceMethod ({ cls := "ExchangeRecords", name := "put", desc := "(II)I" } : Jvm.MethodName)) ∈ GW := gw_2 34 rfl rfl
theorem kw2_35 : (Cond.selects "ExchangeRecords" ({ cls := "ExchangeRecords", name := "put", desc := "(II)I" } : Jvm.MethodName) ({ cls := "ExchangeRecords", name := "put", desc := "(II)I" } : Jvm.MethodName)) ∈ GW := gw_2 35 rfl rfl
theorem kw2_36 : (Cond.code ({ cls := "ExchangeRecords", name := "put", desc := "(II)I" } : Jvm.MethodName) prog_1_method_10_code (3 : Nat) (Option.some Jvm.ClassFile.FieldType.int)) ∈ GW := gw_2 36 rfl rfl
theorem kw2_37 : (Cond.methodLink "ExchangeRecordsLaw" (68 : Nat) ({ cls := "ExchangeRecords", name := "subfield2", desc := "(III)V" } : Jvm.MethodName)) ∈ GW := gw_2 37 rfl rfl
theorem kw2_38 : (Cond.instanceMethod ({ cls := "ExchangeRecords", name := "subfield2", desc := "(III)V" } : Jvm.MethodName)) ∈ GW := gw_2 38 rfl rfl
theorem kw2_39 : (Cond.selects "ExchangeRecords" ({ cls := "ExchangeRecords", name := "subfield2", desc := "(III)V" } : Jvm.MethodName) ({ cls := "ExchangeRecords", name := "subfield2", desc := "(III)V" } : Jvm.MethodName)) ∈ GW := gw_2 39 rfl rfl
theorem kw2_40 : (Cond.code ({ cls := "ExchangeRecords", name := "subfield2", desc := "(III)V" } : Jvm.MethodName) prog_1_method_11_code (8 : Nat) (Option.none : Option Jvm.ClassFile.FieldType)) ∈ GW := gw_2 40 rfl rfl
theorem kw2_41 : (Cond.methodLink "ExchangeRecords" (124 : Nat) ({ cls := "ExchangeRecords", name := "isMark", desc := "(I)Z" } : Jvm.MethodName)) ∈ GW := gw_2 41 rfl rfl
theorem kw2_42 : (Cond.methodLink "ExchangeRecords" (127 : Nat) ({ cls := "ExchangeRecords$Field", name := "lastCode", desc := "()I" } : Jvm.MethodName)) ∈ GW := gw_2 42 rfl rfl
theorem kw2_43 : (Cond.instanceMethod ({ cls := "ExchangeRecords$Field", name := "lastCode", desc := "()I" } : Jvm.MethodName)) ∈ GW := gw_2 43 rfl rfl
theorem kw2_44 : (Cond.selects "ExchangeRecords$Field" ({ cls := "ExchangeRecords$Field", name := "lastCode", desc := "()I" } : Jvm.MethodName) ({ cls := "ExchangeRecords$Field", name := "lastCode", desc := "()I" } : Jvm.MethodName)) ∈ GW := gw_2 44 rfl rfl
theorem kw2_45 : (Cond.code ({ cls := "ExchangeRecords$Field", name := "lastCode", desc := "()I" } : Jvm.MethodName) prog_2_method_10_code (2 : Nat) (Option.some Jvm.ClassFile.FieldType.int)) ∈ GW := gw_2 45 rfl rfl
theorem kw2_46 : (Cond.methodLink "ExchangeRecords" (130 : Nat) ({ cls := "ExchangeRecords", name := "heldBytes", desc := "()I" } : Jvm.MethodName)) ∈ GW := gw_2 46 rfl rfl
theorem kw2_48 : (Cond.instanceMethod ({ cls := "ExchangeRecords", name := "heldBytes", desc := "()I" } : Jvm.MethodName)) ∈ GW := gw_2 48 rfl rfl
theorem kw2_49 : (Cond.code ({ cls := "ExchangeRecords", name := "heldBytes", desc := "()I" } : Jvm.MethodName) prog_1_method_24_code (3 : Nat) (Option.some Jvm.ClassFile.FieldType.int)) ∈ GW := gw_2 49 rfl rfl
theorem kw2_50 : (Cond.methodLink "ExchangeRecords" (182 : Nat) ({ cls := "ExchangeRecords$Field", name := "heldBytes", desc := "()I" } : Jvm.MethodName)) ∈ GW := gw_2 50 rfl rfl
theorem kw2_51 : (Cond.instanceMethod ({ cls := "ExchangeRecords$Field", name := "heldBytes", desc := "()I" } : Jvm.MethodName)) ∈ GW := gw_2 51 rfl rfl
theorem kw2_52 : (Cond.selects "ExchangeRecords$Field" ({ cls := "ExchangeRecords$Field", name := "heldBytes", desc := "()I" } : Jvm.MethodName) ({ cls := "ExchangeRecords$Field", name := "heldBytes", desc := "()I" } : Jvm.MethodName)) ∈ GW := gw_2 52 rfl rfl
theorem kw2_53 : (Cond.code ({ cls := "ExchangeRecords$Field", name := "heldBytes", desc := "()I" } : Jvm.MethodName) prog_2_method_6_code (1 : Nat) (Option.some Jvm.ClassFile.FieldType.int)) ∈ GW := gw_2 53 rfl rfl
theorem kw2_54 : (Cond.methodLink "ExchangeRecords$Field" (41 : Nat) ({ cls := "ExchangeRecords$Field", name := "indicatorCount", desc := "()I" } : Jvm.MethodName)) ∈ GW := gw_2 54 rfl rfl
theorem kw2_55 : (Cond.instanceMethod ({ cls := "ExchangeRecords$Field", name := "indicatorCount", desc := "()I" } : Jvm.MethodName)) ∈ GW := gw_2 55 rfl rfl
theorem kw2_56 : (Cond.selects "ExchangeRecords$Field" ({ cls := "ExchangeRecords$Field", name := "indicatorCount", desc := "()I" } : Jvm.MethodName) ({ cls := "ExchangeRecords$Field", name := "indicatorCount", desc := "()I" } : Jvm.MethodName)) ∈ GW := gw_2 56 rfl rfl
theorem kw2_57 : (Cond.code ({ cls := "ExchangeRecords$Field", name := "indicatorCount", desc := "()I" } : Jvm.MethodName) prog_2_method_5_code (1 : Nat) (Option.some Jvm.ClassFile.FieldType.int)) ∈ GW := gw_2 57 rfl rfl
theorem kw2_59 : (Cond.methodLink "ExchangeRecordsLaw" (73 : Nat) ({ cls := "ExchangeRecords", name := "write", desc := "()I" } : Jvm.MethodName)) ∈ GW := gw_2 59 rfl rfl
theorem kw2_60 : (Cond.instanceMethod ({ cls := "ExchangeRecords", name := "write", desc := "()I" } : Jvm.MethodName)) ∈ GW := gw_2 60 rfl rfl
theorem kw2_61 : (Cond.selects "ExchangeRecords" ({ cls := "ExchangeRecords", name := "write", desc := "()I" } : Jvm.MethodName) ({ cls := "ExchangeRecords", name := "write", desc := "()I" } : Jvm.MethodName)) ∈ GW := gw_2 61 rfl rfl
theorem kw2_62 : (Cond.code ({ cls := "ExchangeRecords", name := "write", desc := "()I" } : Jvm.MethodName) prog_1_method_12_code (4 : Nat) (Option.some Jvm.ClassFile.FieldType.int)) ∈ GW := gw_2 62 rfl rfl
theorem kw2_63 : (Cond.methodLink "ExchangeRecords" (135 : Nat) ({ cls := "ExchangeRecords", name := "hasMarkAsIndicator", desc := "()Z" } : Jvm.MethodName)) ∈ GW := gw_2 63 rfl rfl
theorem kw2_65 : (Cond.instanceMethod ({ cls := "ExchangeRecords", name := "hasMarkAsIndicator", desc := "()Z" } : Jvm.MethodName)) ∈ GW := gw_2 65 rfl rfl
theorem kw2_66 : (Cond.code ({ cls := "ExchangeRecords", name := "hasMarkAsIndicator", desc := "()Z" } : Jvm.MethodName) prog_1_method_25_code (3 : Nat) (Option.some Jvm.ClassFile.FieldType.boolean)) ∈ GW := gw_2 66 rfl rfl
theorem kw2_67 : (Cond.methodLink "ExchangeRecords" (139 : Nat) ({ cls := "ExchangeRecords$Field", name := "writtenSize", desc := "()I" } : Jvm.MethodName)) ∈ GW := gw_2 67 rfl rfl
theorem kw2_68 : (Cond.instanceMethod ({ cls := "ExchangeRecords$Field", name := "writtenSize", desc := "()I" } : Jvm.MethodName)) ∈ GW := gw_2 68 rfl rfl
theorem kw2_69 : (Cond.selects "ExchangeRecords$Field" ({ cls := "ExchangeRecords$Field", name := "writtenSize", desc := "()I" } : Jvm.MethodName) ({ cls := "ExchangeRecords$Field", name := "writtenSize", desc := "()I" } : Jvm.MethodName)) ∈ GW := gw_2 69 rfl rfl
theorem kw2_70 : (Cond.code ({ cls := "ExchangeRecords$Field", name := "writtenSize", desc := "()I" } : Jvm.MethodName) prog_2_method_7_code (1 : Nat) (Option.some Jvm.ClassFile.FieldType.int)) ∈ GW := gw_2 70 rfl rfl
theorem kw2_71 : (Cond.methodLink "ExchangeRecords" (142 : Nat) ({ cls := "ExchangeRecords$Output", name := "begin", desc := "(I)V" } : Jvm.MethodName)) ∈ GW := gw_2 71 rfl rfl
theorem kw2_72 : (Cond.instanceMethod ({ cls := "ExchangeRecords$Output", name := "begin", desc := "(I)V" } : Jvm.MethodName)) ∈ GW := gw_2 72 rfl rfl
theorem kw2_73 : (Cond.selects "ExchangeRecords$Output" ({ cls := "ExchangeRecords$Output", name := "begin", desc := "(I)V" } : Jvm.MethodName) ({ cls := "ExchangeRecords$Output", name := "begin", desc := "(I)V" } : Jvm.MethodName)) ∈ GW := gw_2 73 rfl rfl
theorem kw2_74 : (Cond.code ({ cls := "ExchangeRecords$Output", name := "begin", desc := "(I)V" } : Jvm.MethodName) prog_4_method_2_code (2 : Nat) (Option.none : Option Jvm.ClassFile.FieldType)) ∈ GW := gw_2 74 rfl rfl
theorem kw2_75 : (Cond.methodLink "ExchangeRecords$Output" (17 : Nat) ({ cls := "java/lang/Math", name := "max", desc := "(II)I" } : Jvm.MethodName)) ∈ GW := gw_2 75 rfl rfl
theorem kw2_76 : (Cond.static ({ cls := "java/lang/Math", name := "max", desc := "(II)I" } : Jvm.MethodName)) ∈ GW := gw_2 76 rfl rfl
theorem kw2_77 : (Cond.code ({ cls := "java/lang/Math", name := "max", desc := "(II)I" } : Jvm.MethodName) prog_11_method_65_code (2 : Nat) (Option.some Jvm.ClassFile.FieldType.int)) ∈ GW := gw_2 77 rfl rfl
theorem kw2_78 : (Cond.methodLink "ExchangeRecords" (144 : Nat) ({ cls := "ExchangeRecords", name := "emitLeader", desc := "(II)V" } : Jvm.MethodName)) ∈ GW := gw_2 78 rfl rfl
theorem kw2_80 : (Cond.instanceMethod ({ cls := "ExchangeRecords", name := "emitLeader", desc := "(II)V" } : Jvm.MethodName)) ∈ GW := gw_2 80 rfl rfl
theorem kw2_81 : (Cond.code ({ cls := "ExchangeRecords", name := "emitLeader", desc := "(II)V" } : Jvm.MethodName) prog_1_method_26_code (3 : Nat) (Option.none : Option Jvm.ClassFile.FieldType)) ∈ GW := gw_2 81 rfl rfl
theorem kw2_82 : (Cond.methodLink "ExchangeRecords" (183 : Nat) ({ cls := "ExchangeRecords$Output", name := "emitDigits", desc := "(II)V" } : Jvm.MethodName)) ∈ GW := gw_2 82 rfl rfl
theorem kw2_83 : (Cond.instanceMethod ({ cls := "ExchangeRecords$Output", name := "emitDigits", desc := "(II)V" } : Jvm.MethodName)) ∈ GW := gw_2 83 rfl rfl
theorem kw2_84 : (Cond.selects "ExchangeRecords$Output" ({ cls := "ExchangeRecords$Output", name := "emitDigits", desc := "(II)V" } : Jvm.MethodName) ({ cls := "ExchangeRecords$Output", name := "emitDigits", desc := "(II)V" } : Jvm.MethodName)) ∈ GW := gw_2 84 rfl rfl
theorem kw2_85 : (Cond.code ({ cls := "ExchangeRecords$Output", name := "emitDigits", desc := "(II)V" } : Jvm.MethodName) prog_4_method_4_code (6 : Nat) (Option.none : Option Jvm.ClassFile.FieldType)) ∈ GW := gw_2 85 rfl rfl
theorem kw2_86 : (Cond.methodLink "ExchangeRecords$Output" (23 : Nat) ({ cls := "ExchangeRecords$Output", name := "emit", desc := "(I)V" } : Jvm.MethodName)) ∈ GW := gw_2 86 rfl rfl
theorem kw2_87 : (Cond.instanceMethod ({ cls := "ExchangeRecords$Output", name := "emit", desc := "(I)V" } : Jvm.MethodName)) ∈ GW := gw_2 87 rfl rfl
theorem kw2_88 : (Cond.selects "ExchangeRecords$Output" ({ cls := "ExchangeRecords$Output", name := "emit", desc := "(I)V" } : Jvm.MethodName) ({ cls := "ExchangeRecords$Output", name := "emit", desc := "(I)V" } : Jvm.MethodName)) ∈ GW := gw_2 88 rfl rfl
theorem kw2_89 : (Cond.code ({ cls := "ExchangeRecords$Output", name := "emit", desc := "(I)V" } : Jvm.MethodName) prog_4_method_3_code (2 : Nat) (Option.none : Option Jvm.ClassFile.FieldType)) ∈ GW := gw_2 89 rfl rfl
theorem kw2_90 : (Cond.methodLink "ExchangeRecords" (186 : Nat) ({ cls := "ExchangeRecords", name := "emitLeaderBytes", desc := "(II)V" } : Jvm.MethodName)) ∈ GW := gw_2 90 rfl rfl
theorem kw2_92 : (Cond.instanceMethod ({ cls := "ExchangeRecords", name := "emitLeaderBytes", desc := "(II)V" } : Jvm.MethodName)) ∈ GW := gw_2 92 rfl rfl
theorem kw2_93 : (Cond.code ({ cls := "ExchangeRecords", name := "emitLeaderBytes", desc := "(II)V" } : Jvm.MethodName) prog_1_method_27_code (5 : Nat) (Option.none : Option Jvm.ClassFile.FieldType)) ∈ GW := gw_2 93 rfl rfl
theorem kw2_94 : (Cond.methodLink "ExchangeRecords" (155 : Nat) ({ cls := "ExchangeRecords$Output", name := "emit", desc := "(I)V" } : Jvm.MethodName)) ∈ GW := gw_2 94 rfl rfl
theorem kw2_95 : (Cond.methodLink "ExchangeRecords" (148 : Nat) ({ cls := "ExchangeRecords", name := "emitDirectory", desc := "()V" } : Jvm.MethodName)) ∈ GW := gw_2 95 rfl rfl
theorem kw2_97 : (Cond.instanceMethod ({ cls := "ExchangeRecords", name := "emitDirectory", desc := "()V" } : Jvm.MethodName)) ∈ GW := gw_2 97 rfl rfl
theorem kw2_98 : (Cond.code ({ cls := "ExchangeRecords", name := "emitDirectory", desc := "()V" } : Jvm.MethodName) prog_1_method_28_code (4 : Nat) (Option.none : Option Jvm.ClassFile.FieldType)) ∈ GW := gw_2 98 rfl rfl
theorem kw2_99 : (Cond.methodLink "ExchangeRecords" (151 : Nat) ({ cls := "ExchangeRecords", name := "emitField", desc := "(LExchangeRecords$Field;)V" } : Jvm.MethodName)) ∈ GW := gw_2 99 rfl rfl
theorem kw2_101 : (Cond.instanceMethod ({ cls := "ExchangeRecords", name := "emitField", desc := "(LExchangeRecords$Field;)V" } : Jvm.MethodName)) ∈ GW := gw_2 101 rfl rfl
theorem kw2_102 : (Cond.code ({ cls := "ExchangeRecords", name := "emitField", desc := "(LExchangeRecords$Field;)V" } : Jvm.MethodName) prog_1_method_29_code (3 : Nat) (Option.none : Option Jvm.ClassFile.FieldType)) ∈ GW := gw_2 102 rfl rfl
theorem kw2_103 : (Cond.methodLink "ExchangeRecordsLaw" (46 : Nat) ({ cls := "ExchangeRecordsLaw", name := "directory", desc := "(LExchangeRecords;II[J)I" } : Jvm.MethodName)) ∈ GW := gw_2 103 rfl rfl
theorem kw2_104 : (Cond.static ({ cls := "ExchangeRecordsLaw", name := "directory", desc := "(LExchangeRecords;II[J)I" } : Jvm.MethodName)) ∈ GW := gw_2 104 rfl rfl
theorem kw2_106 : (Cond.classLink "ExchangeRecordsLaw" (13 : Nat) "java/lang/ArrayIndexOutOfBoundsException") ∈ GW := gw_2 106 rfl rfl
theorem kw2_107 : (Cond.instantiable "java/lang/ArrayIndexOutOfBoundsException" (6 : Nat)) ∈ GW := gw_2 107 rfl rfl
theorem kw2_108 : (Cond.instanceMethod ({ cls := "java/lang/ArrayIndexOutOfBoundsException", name := "<init>", desc := "(Ljava/lang/String;)V" } : Jvm.MethodName)) ∈ GW := gw_2 108 rfl rfl
theorem kw2_109 : (Cond.code ({ cls := "java/lang/ArrayIndexOutOfBoundsException", name := "<init>", desc := "(Ljava/lang/String;)V" } : Jvm.MethodName) prog_7_method_2_code (2 : Nat) (Option.none : Option Jvm.ClassFile.FieldType)) ∈ GW := gw_2 109 rfl rfl
theorem kw2_110 : (Cond.methodLink "java/lang/ArrayIndexOutOfBoundsException" (7 : Nat) ({ cls := "java/lang/IndexOutOfBoundsException", name := "<init>", desc := "(Ljava/lang/String;)V" } : Jvm.MethodName)) ∈ GW := gw_2 110 rfl rfl
theorem kw2_111 : (Cond.instanceMethod ({ cls := "java/lang/IndexOutOfBoundsException", name := "<init>", desc := "(Ljava/lang/String;)V" } : Jvm.MethodName)) ∈ GW := gw_2 111 rfl rfl
theorem kw2_112 : (Cond.code ({ cls := "java/lang/IndexOutOfBoundsException", name := "<init>", desc := "(Ljava/lang/String;)V" } : Jvm.MethodName) prog_10_method_2_code (2 : Nat) (Option.none : Option Jvm.ClassFile.FieldType)) ∈ GW := gw_2 112 rfl rfl
theorem kw2_113 : (Cond.methodLink "java/lang/IndexOutOfBoundsException" (7 : Nat) ({ cls := "java/lang/RuntimeException", name := "<init>", desc := "(Ljava/lang/String;)V" } : Jvm.MethodName)) ∈ GW := gw_2 113 rfl rfl
theorem kw2_114 : (Cond.instanceMethod ({ cls := "java/lang/RuntimeException", name := "<init>", desc := "(Ljava/lang/String;)V" } : Jvm.MethodName)) ∈ GW := gw_2 114 rfl rfl
theorem kw2_115 : (Cond.code ({ cls := "java/lang/RuntimeException", name := "<init>", desc := "(Ljava/lang/String;)V" } : Jvm.MethodName) prog_12_method_2_code (2 : Nat) (Option.none : Option Jvm.ClassFile.FieldType)) ∈ GW := gw_2 115 rfl rfl
theorem kw2_116 : (Cond.methodLink "java/lang/RuntimeException" (7 : Nat) ({ cls := "java/lang/Exception", name := "<init>", desc := "(Ljava/lang/String;)V" } : Jvm.MethodName)) ∈ GW := gw_2 116 rfl rfl
theorem kw2_117 : (Cond.instanceMethod ({ cls := "java/lang/Exception", name := "<init>", desc := "(Ljava/lang/String;)V" } : Jvm.MethodName)) ∈ GW := gw_2 117 rfl rfl
theorem kw2_118 : (Cond.code ({ cls := "java/lang/Exception", name := "<init>", desc := "(Ljava/lang/String;)V" } : Jvm.MethodName) prog_9_method_2_code (2 : Nat) (Option.none : Option Jvm.ClassFile.FieldType)) ∈ GW := gw_2 118 rfl rfl
theorem kw2_119 : (Cond.methodLink "java/lang/Exception" (7 : Nat) ({ cls := "java/lang/Throwable", name := "<init>", desc := "(Ljava/lang/String;)V" } : Jvm.MethodName)) ∈ GW := gw_2 119 rfl rfl
theorem kw2_120 : (Cond.instanceMethod ({ cls := "java/lang/Throwable", name := "<init>", desc := "(Ljava/lang/String;)V" } : Jvm.MethodName)) ∈ GW := gw_2 120 rfl rfl
theorem kw2_121 : (Cond.code ({ cls := "java/lang/Throwable", name := "<init>", desc := "(Ljava/lang/String;)V" } : Jvm.MethodName) prog_15_method_2_code (2 : Nat) (Option.none : Option Jvm.ClassFile.FieldType)) ∈ GW := gw_2 121 rfl rfl
theorem kw2_122 : (Cond.methodLink "java/lang/Throwable" (1 : Nat) ({ cls := "java/lang/Object", name := "<init>", desc := "()V" } : Jvm.MethodName)) ∈ GW := gw_2 122 rfl rfl
theorem kw2_123 : (Cond.fieldLink "java/lang/Throwable" (13 : Nat) "java/lang/Throwable" "UNASSIGNED_STACK" "[Ljava/lang/StackTraceElement;") ∈ GW := gw_2 123 rfl rfl
theorem kw2_125 : (Cond.fieldLink "java/lang/Throwable" (20 : Nat) "java/lang/Throwable" "SUPPRESSED_SENTINEL" "Ljava/util/List;") ∈ GW := gw_2 125 rfl rfl
theorem kw2_127 : (Cond.methodLink "java/lang/Throwable" (27 : Nat) ({ cls := "java/lang/Throwable", name := "fillInStackTrace", desc := "()Ljava/lang/Throwable;" } : Jvm.MethodName)) ∈ GW := gw_2 127 rfl rfl
theorem kw2_128 : (Cond.instanceMethod ({ cls := "java/lang/Throwable", name := "fillInStackTrace", desc := "()Ljava/lang/Throwable;" } : Jvm.MethodName)) ∈ GW := gw_2 128 rfl rfl
theorem kw2_129 : (Cond.sameMethod "java/lang/Throwable" "java/lang/Throwable" "fillInStackTrace" "()Ljava/lang/Throwable;") ∈ GW := gw_2 129 rfl rfl
theorem kw2_130 : (Cond.selects "java/lang/ArrayIndexOutOfBoundsException" ({ cls := "java/lang/Throwable", name := "fillInStackTrace", desc := "()Ljava/lang/Throwable;" } : Jvm.MethodName) ({ cls := "java/lang/Throwable", name := "fillInStackTrace", desc := "()Ljava/lang/Throwable;" } : Jvm.MethodName)) ∈ GW := gw_2 130 rfl rfl
theorem kw2_132 : (Cond.methodLink "java/lang/Throwable" (202 : Nat) ({ cls := "java/lang/Throwable", name := "fillInStackTrace", desc := "(I)Ljava/lang/Throwable;" } : Jvm.MethodName)) ∈ GW := gw_2 132 rfl rfl
theorem kw2_134 : (Cond.instanceMethod ({ cls := "java/lang/Throwable", name := "fillInStackTrace", desc := "(I)Ljava/lang/Throwable;" } : Jvm.MethodName)) ∈ GW := gw_2 134 rfl rfl
theorem kw2_135 : (Cond.instantiable "java/lang/Throwable" (6 : Nat)) ∈ GW := gw_2 135 rfl rfl
theorem kw2_136 : (Cond.native ({ cls := "java/lang/Throwable", name := "fillInStackTrace", desc := "(I)Ljava/lang/Throwable;" } : Jvm.MethodName)) ∈ GW := gw_2 136 rfl rfl
theorem kw2_137 : (Cond.fieldLink "java/lang/Throwable" (198 : Nat) "java/lang/Throwable" "backtrace" "Ljava/lang/Object;") ∈ GW := gw_2 137 rfl rfl
theorem kw2_138 : (Cond.fieldLink "java/lang/Throwable" (31 : Nat) "java/lang/Throwable" "detailMessage" "Ljava/lang/String;") ∈ GW := gw_2 138 rfl rfl
theorem kw2_139 : (Cond.fieldLink "java/lang/Throwable" (7 : Nat) "java/lang/Throwable" "cause" "Ljava/lang/Throwable;") ∈ GW := gw_2 139 rfl rfl
theorem kw2_140 : (Cond.fieldLink "java/lang/Throwable" (17 : Nat) "java/lang/Throwable" "stackTrace" "[Ljava/lang/StackTraceElement;") ∈ GW := gw_2 140 rfl rfl
theorem kw2_141 : (Cond.fieldLink "java/lang/Throwable" (24 : Nat) "java/lang/Throwable" "suppressedExceptions" "Ljava/util/List;") ∈ GW := gw_2 141 rfl rfl
theorem kw2_142 : (Cond.lays "java/lang/ArrayIndexOutOfBoundsException" "java/lang/Throwable" "backtrace" "Ljava/lang/Object;") ∈ GW := gw_2 142 rfl rfl
theorem kw2_143 : (Cond.soleField "java/lang/Throwable" "backtrace") ∈ GW := gw_2 143 rfl rfl
theorem kw2_144 : (Cond.lays "java/lang/ArrayIndexOutOfBoundsException" "java/lang/Throwable" "detailMessage" "Ljava/lang/String;") ∈ GW := gw_2 144 rfl rfl
theorem kw2_145 : (Cond.soleField "java/lang/Throwable" "detailMessage") ∈ GW := gw_2 145 rfl rfl
theorem kw2_146 : (Cond.lays "java/lang/ArrayIndexOutOfBoundsException" "java/lang/Throwable" "cause" "Ljava/lang/Throwable;") ∈ GW := gw_2 146 rfl rfl
theorem kw2_147 : (Cond.soleField "java/lang/Throwable" "cause") ∈ GW := gw_2 147 rfl rfl
theorem kw2_148 : (Cond.lays "java/lang/ArrayIndexOutOfBoundsException" "java/lang/Throwable" "stackTrace" "[Ljava/lang/StackTraceElement;") ∈ GW := gw_2 148 rfl rfl
theorem kw2_149 : (Cond.soleField "java/lang/Throwable" "stackTrace") ∈ GW := gw_2 149 rfl rfl
theorem kw2_150 : (Cond.lays "java/lang/ArrayIndexOutOfBoundsException" "java/lang/Throwable" "depth" "I") ∈ GW := gw_2 150 rfl rfl
theorem kw2_151 : (Cond.soleField "java/lang/Throwable" "depth") ∈ GW := gw_2 151 rfl rfl
theorem kw2_152 : (Cond.lays "java/lang/ArrayIndexOutOfBoundsException" "java/lang/Throwable" "suppressedExceptions" "Ljava/util/List;") ∈ GW := gw_2 152 rfl rfl
theorem kw2_153 : (Cond.soleField "java/lang/Throwable" "suppressedExceptions") ∈ GW := gw_2 153 rfl rfl
theorem kw2_154 : (Cond.superclass "java/lang/ArrayIndexOutOfBoundsException" "java/lang/IndexOutOfBoundsException") ∈ GW := gw_2 154 rfl rfl
theorem kw2_164 : (Cond.selects "java/lang/ArrayIndexOutOfBoundsException" ({ cls := "java/lang/Throwable", name := "fillInStackTrace", desc := "(I)Ljava/lang/Throwable;" } : Jvm.MethodName) ({ cls := "java/lang/Throwable", name := "fillInStackTrace", desc := "(I)Ljava/lang/Throwable;" } : Jvm.MethodName)) ∈ GW := gw_2 164 rfl rfl
theorem kw2_165 : (Cond.lays "java/lang/Throwable" "java/lang/Throwable" "cause" "Ljava/lang/Throwable;") ∈ GW := gw_2 165 rfl rfl
theorem kw2_166 : (Cond.lays "java/lang/Throwable" "java/lang/Throwable" "stackTrace" "[Ljava/lang/StackTraceElement;") ∈ GW := gw_2 166 rfl rfl
theorem kw2_167 : (Cond.lays "java/lang/Throwable" "java/lang/Throwable" "suppressedExceptions" "Ljava/util/List;") ∈ GW := gw_2 167 rfl rfl
theorem kw2_168 : (Cond.lays "java/lang/Throwable" "java/lang/Throwable" "detailMessage" "Ljava/lang/String;") ∈ GW := gw_2 168 rfl rfl
theorem kw2_169 : (Cond.lays "java/lang/Throwable" "java/lang/Throwable" "backtrace" "Ljava/lang/Object;") ∈ GW := gw_2 169 rfl rfl
theorem kw2_170 : (Cond.fieldLink "java/lang/Throwable" (198 : Nat) "java/lang/Throwable" "backtrace" "Ljava/lang/Object;") ∈ GW := gw_2 170 rfl rfl
theorem kw2_171 : (Cond.superclass "java/lang/Throwable" "java/lang/Object") ∈ GW := gw_2 171 rfl rfl
theorem kw2_172 : (Cond.instanceMethod ({ cls := "java/lang/Throwable", name := "<init>", desc := "()V" } : Jvm.MethodName)) ∈ GW := gw_2 172 rfl rfl
theorem kw2_173 : (Cond.code ({ cls := "java/lang/Throwable", name := "<init>", desc := "()V" } : Jvm.MethodName) prog_15_method_1_code (1 : Nat) (Option.none : Option Jvm.ClassFile.FieldType)) ∈ GW := gw_2 173 rfl rfl
theorem kw2_174 : (Cond.instantiable "java/lang/String" (4 : Nat)) ∈ GW := gw_2 174 rfl rfl
theorem kw2_175 : (Cond.laysFinal "java/lang/String" "java/lang/String" "value" "[B") ∈ GW := gw_2 175 rfl rfl
theorem kw2_176 : (Cond.soleField "java/lang/String" "value") ∈ GW := gw_2 176 rfl rfl
theorem kw2_177 : (Cond.laysFinal "java/lang/String" "java/lang/String" "coder" "B") ∈ GW := gw_2 177 rfl rfl
theorem kw2_178 : (Cond.soleField "java/lang/String" "coder") ∈ GW := gw_2 178 rfl rfl
theorem kw2_179 : (Cond.methodLink "ExchangeRecordsLaw" (7 : Nat) ({ cls := "ExchangeRecords", name := "directory", desc := "(II)I" } : Jvm.MethodName)) ∈ GW := gw_2 179 rfl rfl
theorem kw2_180 : (Cond.instanceMethod ({ cls := "ExchangeRecords", name := "directory", desc := "(II)I" } : Jvm.MethodName)) ∈ GW := gw_2 180 rfl rfl
theorem kw2_181 : (Cond.selects "ExchangeRecords" ({ cls := "ExchangeRecords", name := "directory", desc := "(II)I" } : Jvm.MethodName) ({ cls := "ExchangeRecords", name := "directory", desc := "(II)I" } : Jvm.MethodName)) ∈ GW := gw_2 181 rfl rfl
theorem kw2_182 : (Cond.code ({ cls := "ExchangeRecords", name := "directory", desc := "(II)I" } : Jvm.MethodName) prog_1_method_7_code (3 : Nat) (Option.some Jvm.ClassFile.FieldType.int)) ∈ GW := gw_2 182 rfl rfl
theorem kw2_183 : (Cond.classLink "ExchangeRecords" (104 : Nat) "java/lang/ArrayIndexOutOfBoundsException") ∈ GW := gw_2 183 rfl rfl
theorem kw2_185 : (Cond.methodLink "ExchangeRecords" (108 : Nat) ({ cls := "java/lang/ArrayIndexOutOfBoundsException", name := "<init>", desc := "(Ljava/lang/String;)V" } : Jvm.MethodName)) ∈ GW := gw_2 185 rfl rfl
theorem kw2_186 : (Cond.methodLink "ExchangeRecordsLaw" (77 : Nat) ({ cls := "ExchangeRecordsLaw", name := "octet", desc := "(LExchangeRecords;I[J)I" } : Jvm.MethodName)) ∈ GW := gw_2 186 rfl rfl
theorem kw2_187 : (Cond.static ({ cls := "ExchangeRecordsLaw", name := "octet", desc := "(LExchangeRecords;I[J)I" } : Jvm.MethodName)) ∈ GW := gw_2 187 rfl rfl
theorem kw2_189 : (Cond.methodLink "ExchangeRecordsLaw" (15 : Nat) ({ cls := "ExchangeRecords", name := "octet", desc := "(I)B" } : Jvm.MethodName)) ∈ GW := gw_2 189 rfl rfl
theorem kw2_190 : (Cond.instanceMethod ({ cls := "ExchangeRecords", name := "octet", desc := "(I)B" } : Jvm.MethodName)) ∈ GW := gw_2 190 rfl rfl
theorem kw2_191 : (Cond.selects "ExchangeRecords" ({ cls := "ExchangeRecords", name := "octet", desc := "(I)B" } : Jvm.MethodName) ({ cls := "ExchangeRecords", name := "octet", desc := "(I)B" } : Jvm.MethodName)) ∈ GW := gw_2 191 rfl rfl
theorem kw2_192 : (Cond.code ({ cls := "ExchangeRecords", name := "octet", desc := "(I)B" } : Jvm.MethodName) prog_1_method_13_code (2 : Nat) (Option.some Jvm.ClassFile.FieldType.byte)) ∈ GW := gw_2 192 rfl rfl
theorem kw2_193 : (Cond.methodLink "ExchangeRecords" (158 : Nat) ({ cls := "ExchangeRecords$Output", name := "has", desc := "(I)Z" } : Jvm.MethodName)) ∈ GW := gw_2 193 rfl rfl
theorem kw2_194 : (Cond.instanceMethod ({ cls := "ExchangeRecords$Output", name := "has", desc := "(I)Z" } : Jvm.MethodName)) ∈ GW := gw_2 194 rfl rfl
theorem kw2_195 : (Cond.selects "ExchangeRecords$Output" ({ cls := "ExchangeRecords$Output", name := "has", desc := "(I)Z" } : Jvm.MethodName) ({ cls := "ExchangeRecords$Output", name := "has", desc := "(I)Z" } : Jvm.MethodName)) ∈ GW := gw_2 195 rfl rfl
theorem kw2_196 : (Cond.code ({ cls := "ExchangeRecords$Output", name := "has", desc := "(I)Z" } : Jvm.MethodName) prog_4_method_5_code (2 : Nat) (Option.some Jvm.ClassFile.FieldType.boolean)) ∈ GW := gw_2 196 rfl rfl
theorem kw2_198 : (Cond.methodLink "ExchangeRecords" (163 : Nat) ({ cls := "ExchangeRecords$Output", name := "at", desc := "(I)B" } : Jvm.MethodName)) ∈ GW := gw_2 198 rfl rfl
theorem kw2_199 : (Cond.instanceMethod ({ cls := "ExchangeRecords$Output", name := "at", desc := "(I)B" } : Jvm.MethodName)) ∈ GW := gw_2 199 rfl rfl
theorem kw2_200 : (Cond.selects "ExchangeRecords$Output" ({ cls := "ExchangeRecords$Output", name := "at", desc := "(I)B" } : Jvm.MethodName) ({ cls := "ExchangeRecords$Output", name := "at", desc := "(I)B" } : Jvm.MethodName)) ∈ GW := gw_2 200 rfl rfl
theorem kw2_201 : (Cond.code ({ cls := "ExchangeRecords$Output", name := "at", desc := "(I)B" } : Jvm.MethodName) prog_4_method_6_code (2 : Nat) (Option.some Jvm.ClassFile.FieldType.byte)) ∈ GW := gw_2 201 rfl rfl
theorem kw2_202 : (Cond.methodLink "ExchangeRecords$Output" (27 : Nat) ({ cls := "ExchangeRecords$Output", name := "has", desc := "(I)Z" } : Jvm.MethodName)) ∈ GW := gw_2 202 rfl rfl
theorem kw2_203 : (Cond.classLink "ExchangeRecordsLaw" (20 : Nat) "ExchangeRecordsModel") ∈ GW := gw_2 203 rfl rfl
theorem kw2_204 : (Cond.instantiable "ExchangeRecordsModel" (16 : Nat)) ∈ GW := gw_2 204 rfl rfl
theorem kw2_205 : (Cond.methodLink "ExchangeRecordsLaw" (22 : Nat) ({ cls := "ExchangeRecordsModel", name := "<init>", desc := "()V" } : Jvm.MethodName)) ∈ GW := gw_2 205 rfl rfl
theorem kw2_206 : (Cond.instanceMethod ({ cls := "ExchangeRecordsModel", name := "<init>", desc := "()V" } : Jvm.MethodName)) ∈ GW := gw_2 206 rfl rfl
theorem kw2_207 : (Cond.code ({ cls := "ExchangeRecordsModel", name := "<init>", desc := "()V" } : Jvm.MethodName) prog_6_method_1_code (1 : Nat) (Option.none : Option Jvm.ClassFile.FieldType)) ∈ GW := gw_2 207 rfl rfl
theorem kw2_208 : (Cond.methodLink "ExchangeRecordsModel" (1 : Nat) ({ cls := "java/lang/Object", name := "<init>", desc := "()V" } : Jvm.MethodName)) ∈ GW := gw_2 208 rfl rfl
theorem kw2_209 : (Cond.constant "ExchangeRecordsModel" (20 : Nat) (114000 : Int32)) ∈ GW := gw_2 209 rfl rfl
theorem kw2_210 : (Cond.constant "ExchangeRecordsModel" (33 : Nat) (115000 : Int32)) ∈ GW := gw_2 210 rfl rfl
theorem kw2_211 : (Cond.fieldLink "ExchangeRecordsModel" (37 : Nat) "ExchangeRecordsModel" "thrown" "I") ∈ GW := gw_2 211 rfl rfl
theorem kw2_212 : (Cond.fieldLink "ExchangeRecordsModel" (7 : Nat) "ExchangeRecordsModel" "input" "[B") ∈ GW := gw_2 212 rfl rfl
theorem kw2_213 : (Cond.fieldLink "ExchangeRecordsModel" (41 : Nat) "ExchangeRecordsModel" "size" "I") ∈ GW := gw_2 213 rfl rfl
theorem kw2_214 : (Cond.fieldLink "ExchangeRecordsModel" (44 : Nat) "ExchangeRecordsModel" "place" "I") ∈ GW := gw_2 214 rfl rfl
theorem kw2_215 : (Cond.fieldLink "ExchangeRecordsModel" (91 : Nat) "ExchangeRecordsModel" "there" "Z") ∈ GW := gw_2 215 rfl rfl
theorem kw2_216 : (Cond.fieldLink "ExchangeRecordsModel" (13 : Nat) "ExchangeRecordsModel" "leader" "[B") ∈ GW := gw_2 216 rfl rfl
theorem kw2_217 : (Cond.fieldLink "ExchangeRecordsModel" (16 : Nat) "ExchangeRecordsModel" "tags" "[I") ∈ GW := gw_2 217 rfl rfl
theorem kw2_218 : (Cond.fieldLink "ExchangeRecordsModel" (21 : Nat) "ExchangeRecordsModel" "bytes" "[B") ∈ GW := gw_2 218 rfl rfl
theorem kw2_219 : (Cond.fieldLink "ExchangeRecordsModel" (24 : Nat) "ExchangeRecordsModel" "sizes" "[I") ∈ GW := gw_2 219 rfl rfl
theorem kw2_220 : (Cond.fieldLink "ExchangeRecordsModel" (88 : Nat) "ExchangeRecordsModel" "fields" "I") ∈ GW := gw_2 220 rfl rfl
theorem kw2_221 : (Cond.fieldLink "ExchangeRecordsModel" (27 : Nat) "ExchangeRecordsModel" "rows" "[I") ∈ GW := gw_2 221 rfl rfl
theorem kw2_222 : (Cond.fieldLink "ExchangeRecordsModel" (30 : Nat) "ExchangeRecordsModel" "newRows" "[I") ∈ GW := gw_2 222 rfl rfl
theorem kw2_223 : (Cond.fieldLink "ExchangeRecordsModel" (85 : Nat) "ExchangeRecordsModel" "rowCount" "I") ∈ GW := gw_2 223 rfl rfl
theorem kw2_224 : (Cond.fieldLink "ExchangeRecordsModel" (34 : Nat) "ExchangeRecordsModel" "written" "[B") ∈ GW := gw_2 224 rfl rfl
theorem kw2_225 : (Cond.fieldLink "ExchangeRecordsModel" (118 : Nat) "ExchangeRecordsModel" "writtenSize" "I") ∈ GW := gw_2 225 rfl rfl
theorem kw2_226 : (Cond.fieldLink "ExchangeRecordsModel" (47 : Nat) "ExchangeRecordsModel" "wrong" "I") ∈ GW := gw_2 226 rfl rfl
theorem kw2_227 : (Cond.lays "ExchangeRecordsModel" "ExchangeRecordsModel" "thrown" "I") ∈ GW := gw_2 227 rfl rfl
theorem kw2_228 : (Cond.soleField "ExchangeRecordsModel" "thrown") ∈ GW := gw_2 228 rfl rfl
theorem kw2_229 : (Cond.laysFinal "ExchangeRecordsModel" "ExchangeRecordsModel" "input" "[B") ∈ GW := gw_2 229 rfl rfl
theorem kw2_230 : (Cond.soleField "ExchangeRecordsModel" "input") ∈ GW := gw_2 230 rfl rfl
theorem kw2_231 : (Cond.lays "ExchangeRecordsModel" "ExchangeRecordsModel" "size" "I") ∈ GW := gw_2 231 rfl rfl
theorem kw2_232 : (Cond.soleField "ExchangeRecordsModel" "size") ∈ GW := gw_2 232 rfl rfl
theorem kw2_233 : (Cond.lays "ExchangeRecordsModel" "ExchangeRecordsModel" "place" "I") ∈ GW := gw_2 233 rfl rfl
theorem kw2_234 : (Cond.soleField "ExchangeRecordsModel" "place") ∈ GW := gw_2 234 rfl rfl
theorem kw2_235 : (Cond.lays "ExchangeRecordsModel" "ExchangeRecordsModel" "there" "Z") ∈ GW := gw_2 235 rfl rfl
theorem kw2_236 : (Cond.soleField "ExchangeRecordsModel" "there") ∈ GW := gw_2 236 rfl rfl
theorem kw2_237 : (Cond.laysFinal "ExchangeRecordsModel" "ExchangeRecordsModel" "leader" "[B") ∈ GW := gw_2 237 rfl rfl
theorem kw2_238 : (Cond.soleField "ExchangeRecordsModel" "leader") ∈ GW := gw_2 238 rfl rfl
theorem kw2_239 : (Cond.laysFinal "ExchangeRecordsModel" "ExchangeRecordsModel" "tags" "[I") ∈ GW := gw_2 239 rfl rfl
theorem kw3_0 : (Cond.soleField "ExchangeRecordsModel" "tags") ∈ GW := gw_3 0 rfl rfl
theorem kw3_1 : (Cond.laysFinal "ExchangeRecordsModel" "ExchangeRecordsModel" "bytes" "[B") ∈ GW := gw_3 1 rfl rfl
theorem kw3_2 : (Cond.soleField "ExchangeRecordsModel" "bytes") ∈ GW := gw_3 2 rfl rfl
theorem kw3_3 : (Cond.laysFinal "ExchangeRecordsModel" "ExchangeRecordsModel" "sizes" "[I") ∈ GW := gw_3 3 rfl rfl
theorem kw3_4 : (Cond.soleField "ExchangeRecordsModel" "sizes") ∈ GW := gw_3 4 rfl rfl
theorem kw3_5 : (Cond.lays "ExchangeRecordsModel" "ExchangeRecordsModel" "fields" "I") ∈ GW := gw_3 5 rfl rfl
theorem kw3_6 : (Cond.soleField "ExchangeRecordsModel" "fields") ∈ GW := gw_3 6 rfl rfl
theorem kw3_7 : (Cond.laysFinal "ExchangeRecordsModel" "ExchangeRecordsModel" "rows" "[I") ∈ GW := gw_3 7 rfl rfl
theorem kw3_8 : (Cond.soleField "ExchangeRecordsModel" "rows") ∈ GW := gw_3 8 rfl rfl
theorem kw3_9 : (Cond.laysFinal "ExchangeRecordsModel" "ExchangeRecordsModel" "newRows" "[I") ∈ GW := gw_3 9 rfl rfl
theorem kw3_10 : (Cond.soleField "ExchangeRecordsModel" "newRows") ∈ GW := gw_3 10 rfl rfl
theorem kw3_11 : (Cond.lays "ExchangeRecordsModel" "ExchangeRecordsModel" "rowCount" "I") ∈ GW := gw_3 11 rfl rfl
theorem kw3_12 : (Cond.soleField "ExchangeRecordsModel" "rowCount") ∈ GW := gw_3 12 rfl rfl
theorem kw3_13 : (Cond.laysFinal "ExchangeRecordsModel" "ExchangeRecordsModel" "written" "[B") ∈ GW := gw_3 13 rfl rfl
theorem kw3_14 : (Cond.soleField "ExchangeRecordsModel" "written") ∈ GW := gw_3 14 rfl rfl
theorem kw3_15 : (Cond.lays "ExchangeRecordsModel" "ExchangeRecordsModel" "writtenSize" "I") ∈ GW := gw_3 15 rfl rfl
theorem kw3_16 : (Cond.soleField "ExchangeRecordsModel" "writtenSize") ∈ GW := gw_3 16 rfl rfl
theorem kw3_17 : (Cond.lays "ExchangeRecordsModel" "ExchangeRecordsModel" "wrong" "I") ∈ GW := gw_3 17 rfl rfl
theorem kw3_18 : (Cond.soleField "ExchangeRecordsModel" "wrong") ∈ GW := gw_3 18 rfl rfl
theorem kw3_19 : (Cond.superclass "ExchangeRecordsModel" "java/lang/Object") ∈ GW := gw_3 19 rfl rfl
theorem kw3_20 : (Cond.methodLink "ExchangeRecordsLaw" (52 : Nat) ({ cls := "ExchangeRecordsModel", name := "thrown", desc := "()I" } : Jvm.MethodName)) ∈ GW := gw_3 20 rfl rfl
theorem kw3_21 : (Cond.instanceMethod ({ cls := "ExchangeRecordsModel", name := "thrown", desc := "()I" } : Jvm.MethodName)) ∈ GW := gw_3 21 rfl rfl
theorem kw3_22 : (Cond.selects "ExchangeRecordsModel" ({ cls := "ExchangeRecordsModel", name := "thrown", desc := "()I" } : Jvm.MethodName) ({ cls := "ExchangeRecordsModel", name := "thrown", desc := "()I" } : Jvm.MethodName)) ∈ GW := gw_3 22 rfl rfl
theorem kw3_23 : (Cond.code ({ cls := "ExchangeRecordsModel", name := "thrown", desc := "()I" } : Jvm.MethodName) prog_6_method_2_code (1 : Nat) (Option.some Jvm.ClassFile.FieldType.int)) ∈ GW := gw_3 23 rfl rfl
theorem kw3_24 : (Cond.methodLink "ExchangeRecordsLaw" (27 : Nat) ({ cls := "ExchangeRecordsModel", name := "add", desc := "(B)V" } : Jvm.MethodName)) ∈ GW := gw_3 24 rfl rfl
theorem kw3_25 : (Cond.instanceMethod ({ cls := "ExchangeRecordsModel", name := "add", desc := "(B)V" } : Jvm.MethodName)) ∈ GW := gw_3 25 rfl rfl
theorem kw3_26 : (Cond.selects "ExchangeRecordsModel" ({ cls := "ExchangeRecordsModel", name := "add", desc := "(B)V" } : Jvm.MethodName) ({ cls := "ExchangeRecordsModel", name := "add", desc := "(B)V" } : Jvm.MethodName)) ∈ GW := gw_3 26 rfl rfl
theorem kw3_27 : (Cond.code ({ cls := "ExchangeRecordsModel", name := "add", desc := "(B)V" } : Jvm.MethodName) prog_6_method_3_code (2 : Nat) (Option.none : Option Jvm.ClassFile.FieldType)) ∈ GW := gw_3 27 rfl rfl
theorem kw3_28 : (Cond.methodLink "ExchangeRecordsLaw" (32 : Nat) ({ cls := "ExchangeRecordsModel", name := "read", desc := "()I" } : Jvm.MethodName)) ∈ GW := gw_3 28 rfl rfl
theorem kw3_29 : (Cond.instanceMethod ({ cls := "ExchangeRecordsModel", name := "read", desc := "()I" } : Jvm.MethodName)) ∈ GW := gw_3 29 rfl rfl
theorem kw3_30 : (Cond.selects "ExchangeRecordsModel" ({ cls := "ExchangeRecordsModel", name := "read", desc := "()I" } : Jvm.MethodName) ({ cls := "ExchangeRecordsModel", name := "read", desc := "()I" } : Jvm.MethodName)) ∈ GW := gw_3 30 rfl rfl
theorem kw3_31 : (Cond.code ({ cls := "ExchangeRecordsModel", name := "read", desc := "()I" } : Jvm.MethodName) prog_6_method_16_code (2 : Nat) (Option.some Jvm.ClassFile.FieldType.int)) ∈ GW := gw_3 31 rfl rfl
theorem kw3_32 : (Cond.methodLink "ExchangeRecordsModel" (65 : Nat) ({ cls := "ExchangeRecordsModel", name := "digits", desc := "(II)Z" } : Jvm.MethodName)) ∈ GW := gw_3 32 rfl rfl
theorem kw3_34 : (Cond.instanceMethod ({ cls := "ExchangeRecordsModel", name := "digits", desc := "(II)Z" } : Jvm.MethodName)) ∈ GW := gw_3 34 rfl rfl
theorem kw3_35 : (Cond.code ({ cls := "ExchangeRecordsModel", name := "digits", desc := "(II)Z" } : Jvm.MethodName) prog_6_method_6_code (4 : Nat) (Option.some Jvm.ClassFile.FieldType.boolean)) ∈ GW := gw_3 35 rfl rfl
theorem kw3_36 : (Cond.methodLink "ExchangeRecordsModel" (50 : Nat) ({ cls := "ExchangeRecordsModel", name := "look", desc := "(I)I" } : Jvm.MethodName)) ∈ GW := gw_3 36 rfl rfl
theorem kw3_38 : (Cond.instanceMethod ({ cls := "ExchangeRecordsModel", name := "look", desc := "(I)I" } : Jvm.MethodName)) ∈ GW := gw_3 38 rfl rfl
theorem kw3_39 : (Cond.code ({ cls := "ExchangeRecordsModel", name := "look", desc := "(I)I" } : Jvm.MethodName) prog_6_method_4_code (2 : Nat) (Option.some Jvm.ClassFile.FieldType.int)) ∈ GW := gw_3 39 rfl rfl
theorem kw3_40 : (Cond.methodLink "ExchangeRecordsModel" (54 : Nat) ({ cls := "ExchangeRecordsModel", name := "bad", desc := "(I)Z" } : Jvm.MethodName)) ∈ GW := gw_3 40 rfl rfl
theorem kw3_42 : (Cond.instanceMethod ({ cls := "ExchangeRecordsModel", name := "bad", desc := "(I)Z" } : Jvm.MethodName)) ∈ GW := gw_3 42 rfl rfl
theorem kw3_43 : (Cond.code ({ cls := "ExchangeRecordsModel", name := "bad", desc := "(I)Z" } : Jvm.MethodName) prog_6_method_5_code (2 : Nat) (Option.some Jvm.ClassFile.FieldType.boolean)) ∈ GW := gw_3 43 rfl rfl
theorem kw3_44 : (Cond.methodLink "ExchangeRecordsModel" (68 : Nat) ({ cls := "ExchangeRecordsModel", name := "number", desc := "(II)I" } : Jvm.MethodName)) ∈ GW := gw_3 44 rfl rfl
theorem kw3_46 : (Cond.instanceMethod ({ cls := "ExchangeRecordsModel", name := "number", desc := "(II)I" } : Jvm.MethodName)) ∈ GW := gw_3 46 rfl rfl
theorem kw3_47 : (Cond.code ({ cls := "ExchangeRecordsModel", name := "number", desc := "(II)I" } : Jvm.MethodName) prog_6_method_7_code (5 : Nat) (Option.some Jvm.ClassFile.FieldType.int)) ∈ GW := gw_3 47 rfl rfl
theorem kw3_48 : (Cond.methodLink "ExchangeRecordsModel" (95 : Nat) ({ cls := "ExchangeRecordsModel", name := "reads", desc := "(I)Z" } : Jvm.MethodName)) ∈ GW := gw_3 48 rfl rfl
theorem kw3_50 : (Cond.instanceMethod ({ cls := "ExchangeRecordsModel", name := "reads", desc := "(I)Z" } : Jvm.MethodName)) ∈ GW := gw_3 50 rfl rfl
theorem kw3_51 : (Cond.code ({ cls := "ExchangeRecordsModel", name := "reads", desc := "(I)Z" } : Jvm.MethodName) prog_6_method_14_code (4 : Nat) (Option.some Jvm.ClassFile.FieldType.boolean)) ∈ GW := gw_3 51 rfl rfl
theorem kw3_52 : (Cond.methodLink "ExchangeRecordsModel" (61 : Nat) ({ cls := "ExchangeRecordsModel", name := "must", desc := "(II)Z" } : Jvm.MethodName)) ∈ GW := gw_3 52 rfl rfl
theorem kw3_54 : (Cond.instanceMethod ({ cls := "ExchangeRecordsModel", name := "must", desc := "(II)Z" } : Jvm.MethodName)) ∈ GW := gw_3 54 rfl rfl
theorem kw3_55 : (Cond.code ({ cls := "ExchangeRecordsModel", name := "must", desc := "(II)Z" } : Jvm.MethodName) prog_6_method_8_code (3 : Nat) (Option.some Jvm.ClassFile.FieldType.boolean)) ∈ GW := gw_3 55 rfl rfl
theorem kw3_56 : (Cond.methodLink "ExchangeRecordsModel" (78 : Nat) ({ cls := "ExchangeRecordsModel", name := "heads", desc := "(II)Z" } : Jvm.MethodName)) ∈ GW := gw_3 56 rfl rfl
theorem kw3_58 : (Cond.instanceMethod ({ cls := "ExchangeRecordsModel", name := "heads", desc := "(II)Z" } : Jvm.MethodName)) ∈ GW := gw_3 58 rfl rfl
theorem kw3_59 : (Cond.code ({ cls := "ExchangeRecordsModel", name := "heads", desc := "(II)Z" } : Jvm.MethodName) prog_6_method_13_code (3 : Nat) (Option.some Jvm.ClassFile.FieldType.boolean)) ∈ GW := gw_3 59 rfl rfl
theorem kw3_60 : (Cond.methodLink "ExchangeRecordsModel" (81 : Nat) ({ cls := "ExchangeRecordsModel", name := "row", desc := "(III)Z" } : Jvm.MethodName)) ∈ GW := gw_3 60 rfl rfl
theorem kw3_62 : (Cond.instanceMethod ({ cls := "ExchangeRecordsModel", name := "row", desc := "(III)Z" } : Jvm.MethodName)) ∈ GW := gw_3 62 rfl rfl
theorem kw3_63 : (Cond.code ({ cls := "ExchangeRecordsModel", name := "row", desc := "(III)Z" } : Jvm.MethodName) prog_6_method_12_code (8 : Nat) (Option.some Jvm.ClassFile.FieldType.boolean)) ∈ GW := gw_3 63 rfl rfl
theorem kw3_64 : (Cond.methodLink "ExchangeRecordsModel" (72 : Nat) ({ cls := "ExchangeRecordsModel", name := "control", desc := "(II)Z" } : Jvm.MethodName)) ∈ GW := gw_3 64 rfl rfl
theorem kw3_66 : (Cond.instanceMethod ({ cls := "ExchangeRecordsModel", name := "control", desc := "(II)Z" } : Jvm.MethodName)) ∈ GW := gw_3 66 rfl rfl
theorem kw3_67 : (Cond.code ({ cls := "ExchangeRecordsModel", name := "control", desc := "(II)Z" } : Jvm.MethodName) prog_6_method_10_code (4 : Nat) (Option.some Jvm.ClassFile.FieldType.boolean)) ∈ GW := gw_3 67 rfl rfl
theorem kw3_68 : (Cond.methodLink "ExchangeRecordsModel" (58 : Nat) ({ cls := "ExchangeRecordsModel", name := "isMark", desc := "(I)Z" } : Jvm.MethodName)) ∈ GW := gw_3 68 rfl rfl
theorem kw3_69 : (Cond.static ({ cls := "ExchangeRecordsModel", name := "isMark", desc := "(I)Z" } : Jvm.MethodName)) ∈ GW := gw_3 69 rfl rfl
theorem kw3_70 : (Cond.code ({ cls := "ExchangeRecordsModel", name := "isMark", desc := "(I)Z" } : Jvm.MethodName) prog_6_method_9_code (1 : Nat) (Option.some Jvm.ClassFile.FieldType.boolean)) ∈ GW := gw_3 70 rfl rfl
theorem kw3_71 : (Cond.methodLink "ExchangeRecordsModel" (75 : Nat) ({ cls := "ExchangeRecordsModel", name := "data", desc := "(II)Z" } : Jvm.MethodName)) ∈ GW := gw_3 71 rfl rfl
theorem kw3_73 : (Cond.instanceMethod ({ cls := "ExchangeRecordsModel", name := "data", desc := "(II)Z" } : Jvm.MethodName)) ∈ GW := gw_3 73 rfl rfl
theorem kw3_74 : (Cond.code ({ cls := "ExchangeRecordsModel", name := "data", desc := "(II)Z" } : Jvm.MethodName) prog_6_method_11_code (5 : Nat) (Option.some Jvm.ClassFile.FieldType.boolean)) ∈ GW := gw_3 74 rfl rfl
theorem kw3_75 : (Cond.methodLink "ExchangeRecordsModel" (98 : Nat) ({ cls := "ExchangeRecordsModel", name := "keep", desc := "()V" } : Jvm.MethodName)) ∈ GW := gw_3 75 rfl rfl
theorem kw3_77 : (Cond.instanceMethod ({ cls := "ExchangeRecordsModel", name := "keep", desc := "()V" } : Jvm.MethodName)) ∈ GW := gw_3 77 rfl rfl
theorem kw3_78 : (Cond.code ({ cls := "ExchangeRecordsModel", name := "keep", desc := "()V" } : Jvm.MethodName) prog_6_method_15_code (4 : Nat) (Option.none : Option Jvm.ClassFile.FieldType)) ∈ GW := gw_3 78 rfl rfl
theorem kw3_79 : (Cond.methodLink "ExchangeRecordsLaw" (36 : Nat) ({ cls := "ExchangeRecordsModel", name := "field", desc := "(II)I" } : Jvm.MethodName)) ∈ GW := gw_3 79 rfl rfl
theorem kw3_80 : (Cond.instanceMethod ({ cls := "ExchangeRecordsModel", name := "field", desc := "(II)I" } : Jvm.MethodName)) ∈ GW := gw_3 80 rfl rfl
theorem kw3_81 : (Cond.selects "ExchangeRecordsModel" ({ cls := "ExchangeRecordsModel", name := "field", desc := "(II)I" } : Jvm.MethodName) ({ cls := "ExchangeRecordsModel", name := "field", desc := "(II)I" } : Jvm.MethodName)) ∈ GW := gw_3 81 rfl rfl
theorem kw3_82 : (Cond.code ({ cls := "ExchangeRecordsModel", name := "field", desc := "(II)I" } : Jvm.MethodName) prog_6_method_19_code (5 : Nat) (Option.some Jvm.ClassFile.FieldType.int)) ∈ GW := gw_3 82 rfl rfl
theorem kw3_83 : (Cond.methodLink "ExchangeRecordsLaw" (40 : Nat) ({ cls := "ExchangeRecordsModel", name := "indicator", desc := "(II)I" } : Jvm.MethodName)) ∈ GW := gw_3 83 rfl rfl
theorem kw3_84 : (Cond.instanceMethod ({ cls := "ExchangeRecordsModel", name := "indicator", desc := "(II)I" } : Jvm.MethodName)) ∈ GW := gw_3 84 rfl rfl
theorem kw3_85 : (Cond.selects "ExchangeRecordsModel" ({ cls := "ExchangeRecordsModel", name := "indicator", desc := "(II)I" } : Jvm.MethodName) ({ cls := "ExchangeRecordsModel", name := "indicator", desc := "(II)I" } : Jvm.MethodName)) ∈ GW := gw_3 85 rfl rfl
theorem kw3_86 : (Cond.code ({ cls := "ExchangeRecordsModel", name := "indicator", desc := "(II)I" } : Jvm.MethodName) prog_6_method_20_code (3 : Nat) (Option.some Jvm.ClassFile.FieldType.int)) ∈ GW := gw_3 86 rfl rfl
theorem kw3_87 : (Cond.methodLink "ExchangeRecordsModel" (101 : Nat) ({ cls := "ExchangeRecordsModel", name := "isField", desc := "(I)Z" } : Jvm.MethodName)) ∈ GW := gw_3 87 rfl rfl
theorem kw3_89 : (Cond.instanceMethod ({ cls := "ExchangeRecordsModel", name := "isField", desc := "(I)Z" } : Jvm.MethodName)) ∈ GW := gw_3 89 rfl rfl
theorem kw3_90 : (Cond.code ({ cls := "ExchangeRecordsModel", name := "isField", desc := "(I)Z" } : Jvm.MethodName) prog_6_method_17_code (2 : Nat) (Option.some Jvm.ClassFile.FieldType.boolean)) ∈ GW := gw_3 90 rfl rfl
theorem kw3_91 : (Cond.methodLink "ExchangeRecordsModel" (104 : Nat) ({ cls := "ExchangeRecordsModel", name := "at", desc := "(II)I" } : Jvm.MethodName)) ∈ GW := gw_3 91 rfl rfl
theorem kw3_93 : (Cond.instanceMethod ({ cls := "ExchangeRecordsModel", name := "at", desc := "(II)I" } : Jvm.MethodName)) ∈ GW := gw_3 93 rfl rfl
theorem kw3_94 : (Cond.code ({ cls := "ExchangeRecordsModel", name := "at", desc := "(II)I" } : Jvm.MethodName) prog_6_method_18_code (3 : Nat) (Option.some Jvm.ClassFile.FieldType.int)) ∈ GW := gw_3 94 rfl rfl
theorem kw3_95 : (Cond.methodLink "ExchangeRecordsLaw" (45 : Nat) ({ cls := "ExchangeRecordsModel", name := "subfield", desc := "(IIII)I" } : Jvm.MethodName)) ∈ GW := gw_3 95 rfl rfl
theorem kw3_96 : (Cond.instanceMethod ({ cls := "ExchangeRecordsModel", name := "subfield", desc := "(IIII)I" } : Jvm.MethodName)) ∈ GW := gw_3 96 rfl rfl
theorem kw3_97 : (Cond.selects "ExchangeRecordsModel" ({ cls := "ExchangeRecordsModel", name := "subfield", desc := "(IIII)I" } : Jvm.MethodName) ({ cls := "ExchangeRecordsModel", name := "subfield", desc := "(IIII)I" } : Jvm.MethodName)) ∈ GW := gw_3 97 rfl rfl
theorem kw3_98 : (Cond.code ({ cls := "ExchangeRecordsModel", name := "subfield", desc := "(IIII)I" } : Jvm.MethodName) prog_6_method_21_code (9 : Nat) (Option.some Jvm.ClassFile.FieldType.int)) ∈ GW := gw_3 98 rfl rfl
theorem kw3_99 : (Cond.methodLink "ExchangeRecordsLaw" (51 : Nat) ({ cls := "ExchangeRecordsModel", name := "directory", desc := "(II)I" } : Jvm.MethodName)) ∈ GW := gw_3 99 rfl rfl
theorem kw3_100 : (Cond.instanceMethod ({ cls := "ExchangeRecordsModel", name := "directory", desc := "(II)I" } : Jvm.MethodName)) ∈ GW := gw_3 100 rfl rfl
theorem kw3_101 : (Cond.selects "ExchangeRecordsModel" ({ cls := "ExchangeRecordsModel", name := "directory", desc := "(II)I" } : Jvm.MethodName) ({ cls := "ExchangeRecordsModel", name := "directory", desc := "(II)I" } : Jvm.MethodName)) ∈ GW := gw_3 101 rfl rfl
theorem kw3_102 : (Cond.code ({ cls := "ExchangeRecordsModel", name := "directory", desc := "(II)I" } : Jvm.MethodName) prog_6_method_22_code (3 : Nat) (Option.some Jvm.ClassFile.FieldType.int)) ∈ GW := gw_3 102 rfl rfl
theorem kw3_103 : (Cond.methodLink "ExchangeRecordsLaw" (58 : Nat) ({ cls := "ExchangeRecordsModel", name := "length", desc := "()I" } : Jvm.MethodName)) ∈ GW := gw_3 103 rfl rfl
theorem kw3_104 : (Cond.instanceMethod ({ cls := "ExchangeRecordsModel", name := "length", desc := "()I" } : Jvm.MethodName)) ∈ GW := gw_3 104 rfl rfl
theorem kw3_105 : (Cond.selects "ExchangeRecordsModel" ({ cls := "ExchangeRecordsModel", name := "length", desc := "()I" } : Jvm.MethodName) ({ cls := "ExchangeRecordsModel", name := "length", desc := "()I" } : Jvm.MethodName)) ∈ GW := gw_3 105 rfl rfl
theorem kw3_106 : (Cond.code ({ cls := "ExchangeRecordsModel", name := "length", desc := "()I" } : Jvm.MethodName) prog_6_method_23_code (1 : Nat) (Option.some Jvm.ClassFile.FieldType.int)) ∈ GW := gw_3 106 rfl rfl
theorem kw3_107 : (Cond.methodLink "ExchangeRecordsLaw" (63 : Nat) ({ cls := "ExchangeRecordsModel", name := "leader", desc := "(II)Z" } : Jvm.MethodName)) ∈ GW := gw_3 107 rfl rfl
theorem kw3_108 : (Cond.instanceMethod ({ cls := "ExchangeRecordsModel", name := "leader", desc := "(II)Z" } : Jvm.MethodName)) ∈ GW := gw_3 108 rfl rfl
theorem kw3_109 : (Cond.selects "ExchangeRecordsModel" ({ cls := "ExchangeRecordsModel", name := "leader", desc := "(II)Z" } : Jvm.MethodName) ({ cls := "ExchangeRecordsModel", name := "leader", desc := "(II)Z" } : Jvm.MethodName)) ∈ GW := gw_3 109 rfl rfl
theorem kw3_110 : (Cond.code ({ cls := "ExchangeRecordsModel", name := "leader", desc := "(II)Z" } : Jvm.MethodName) prog_6_method_25_code (4 : Nat) (Option.some Jvm.ClassFile.FieldType.boolean)) ∈ GW := gw_3 110 rfl rfl
theorem kw3_111 : (Cond.methodLink "ExchangeRecordsModel" (107 : Nat) ({ cls := "ExchangeRecordsModel", name := "isAny", desc := "(I)Z" } : Jvm.MethodName)) ∈ GW := gw_3 111 rfl rfl
theorem kw3_112 : (Cond.static ({ cls := "ExchangeRecordsModel", name := "isAny", desc := "(I)Z" } : Jvm.MethodName)) ∈ GW := gw_3 112 rfl rfl
theorem kw3_113 : (Cond.code ({ cls := "ExchangeRecordsModel", name := "isAny", desc := "(I)Z" } : Jvm.MethodName) prog_6_method_24_code (1 : Nat) (Option.some Jvm.ClassFile.FieldType.boolean)) ∈ GW := gw_3 113 rfl rfl
theorem kw3_114 : (Cond.methodLink "ExchangeRecordsLaw" (67 : Nat) ({ cls := "ExchangeRecordsModel", name := "put", desc := "(II)I" } : Jvm.MethodName)) ∈ GW := gw_3 114 rfl rfl
theorem kw3_115 : (Cond.instanceMethod ({ cls := "ExchangeRecordsModel", name := "put", desc := "(II)I" } : Jvm.MethodName)) ∈ GW := gw_3 115 rfl rfl
theorem kw3_116 : (Cond.selects "ExchangeRecordsModel" ({ cls := "ExchangeRecordsModel", name := "put", desc := "(II)I" } : Jvm.MethodName) ({ cls := "ExchangeRecordsModel", name := "put", desc := "(II)I" } : Jvm.MethodName)) ∈ GW := gw_3 116 rfl rfl
theorem kw3_117 : (Cond.code ({ cls := "ExchangeRecordsModel", name := "put", desc := "(II)I" } : Jvm.MethodName) prog_6_method_26_code (3 : Nat) (Option.some Jvm.ClassFile.FieldType.int)) ∈ GW := gw_3 117 rfl rfl
theorem kw3_118 : (Cond.methodLink "ExchangeRecordsLaw" (72 : Nat) ({ cls := "ExchangeRecordsModel", name := "subfield2", desc := "(III)V" } : Jvm.MethodName)) ∈ GW := gw_3 118 rfl rfl
theorem kw3_119 : (Cond.instanceMethod ({ cls := "ExchangeRecordsModel", name := "subfield2", desc := "(III)V" } : Jvm.MethodName)) ∈ GW := gw_3 119 rfl rfl
theorem kw3_120 : (Cond.selects "ExchangeRecordsModel" ({ cls := "ExchangeRecordsModel", name := "subfield2", desc := "(III)V" } : Jvm.MethodName) ({ cls := "ExchangeRecordsModel", name := "subfield2", desc := "(III)V" } : Jvm.MethodName)) ∈ GW := gw_3 120 rfl rfl
theorem kw3_121 : (Cond.code ({ cls := "ExchangeRecordsModel", name := "subfield2", desc := "(III)V" } : Jvm.MethodName) prog_6_method_29_code (6 : Nat) (Option.none : Option Jvm.ClassFile.FieldType)) ∈ GW := gw_3 121 rfl rfl
theorem kw3_122 : (Cond.methodLink "ExchangeRecordsModel" (110 : Nat) ({ cls := "ExchangeRecordsModel", name := "together", desc := "()I" } : Jvm.MethodName)) ∈ GW := gw_3 122 rfl rfl
theorem kw3_124 : (Cond.instanceMethod ({ cls := "ExchangeRecordsModel", name := "together", desc := "()I" } : Jvm.MethodName)) ∈ GW := gw_3 124 rfl rfl
theorem kw3_125 : (Cond.code ({ cls := "ExchangeRecordsModel", name := "together", desc := "()I" } : Jvm.MethodName) prog_6_method_27_code (4 : Nat) (Option.some Jvm.ClassFile.FieldType.int)) ∈ GW := gw_3 125 rfl rfl
theorem kw3_126 : (Cond.methodLink "ExchangeRecordsModel" (114 : Nat) ({ cls := "ExchangeRecordsModel", name := "append", desc := "(II)V" } : Jvm.MethodName)) ∈ GW := gw_3 126 rfl rfl
theorem kw3_128 : (Cond.instanceMethod ({ cls := "ExchangeRecordsModel", name := "append", desc := "(II)V" } : Jvm.MethodName)) ∈ GW := gw_3 128 rfl rfl
theorem kw3_129 : (Cond.code ({ cls := "ExchangeRecordsModel", name := "append", desc := "(II)V" } : Jvm.MethodName) prog_6_method_28_code (3 : Nat) (Option.none : Option Jvm.ClassFile.FieldType)) ∈ GW := gw_3 129 rfl rfl
theorem kw3_130 : (Cond.methodLink "ExchangeRecordsLaw" (76 : Nat) ({ cls := "ExchangeRecordsModel", name := "write", desc := "()I" } : Jvm.MethodName)) ∈ GW := gw_3 130 rfl rfl
theorem kw3_131 : (Cond.instanceMethod ({ cls := "ExchangeRecordsModel", name := "write", desc := "()I" } : Jvm.MethodName)) ∈ GW := gw_3 131 rfl rfl
theorem kw3_132 : (Cond.selects "ExchangeRecordsModel" ({ cls := "ExchangeRecordsModel", name := "write", desc := "()I" } : Jvm.MethodName) ({ cls := "ExchangeRecordsModel", name := "write", desc := "()I" } : Jvm.MethodName)) ∈ GW := gw_3 132 rfl rfl
theorem kw3_133 : (Cond.code ({ cls := "ExchangeRecordsModel", name := "write", desc := "()I" } : Jvm.MethodName) prog_6_method_32_code (7 : Nat) (Option.some Jvm.ClassFile.FieldType.int)) ∈ GW := gw_3 133 rfl rfl
theorem kw3_134 : (Cond.methodLink "ExchangeRecordsModel" (125 : Nat) ({ cls := "ExchangeRecordsModel", name := "sayNumber", desc := "(II)V" } : Jvm.MethodName)) ∈ GW := gw_3 134 rfl rfl
theorem kw3_136 : (Cond.instanceMethod ({ cls := "ExchangeRecordsModel", name := "sayNumber", desc := "(II)V" } : Jvm.MethodName)) ∈ GW := gw_3 136 rfl rfl
theorem kw3_137 : (Cond.code ({ cls := "ExchangeRecordsModel", name := "sayNumber", desc := "(II)V" } : Jvm.MethodName) prog_6_method_31_code (5 : Nat) (Option.none : Option Jvm.ClassFile.FieldType)) ∈ GW := gw_3 137 rfl rfl
theorem kw3_138 : (Cond.methodLink "ExchangeRecordsModel" (121 : Nat) ({ cls := "ExchangeRecordsModel", name := "say", desc := "(I)V" } : Jvm.MethodName)) ∈ GW := gw_3 138 rfl rfl
theorem kw3_140 : (Cond.instanceMethod ({ cls := "ExchangeRecordsModel", name := "say", desc := "(I)V" } : Jvm.MethodName)) ∈ GW := gw_3 140 rfl rfl
theorem kw3_141 : (Cond.code ({ cls := "ExchangeRecordsModel", name := "say", desc := "(I)V" } : Jvm.MethodName) prog_6_method_30_code (2 : Nat) (Option.none : Option Jvm.ClassFile.FieldType)) ∈ GW := gw_3 141 rfl rfl
theorem kw3_142 : (Cond.methodLink "ExchangeRecordsLaw" (80 : Nat) ({ cls := "ExchangeRecordsModel", name := "octet", desc := "(I)B" } : Jvm.MethodName)) ∈ GW := gw_3 142 rfl rfl
theorem kw3_143 : (Cond.instanceMethod ({ cls := "ExchangeRecordsModel", name := "octet", desc := "(I)B" } : Jvm.MethodName)) ∈ GW := gw_3 143 rfl rfl
theorem kw3_144 : (Cond.selects "ExchangeRecordsModel" ({ cls := "ExchangeRecordsModel", name := "octet", desc := "(I)B" } : Jvm.MethodName) ({ cls := "ExchangeRecordsModel", name := "octet", desc := "(I)B" } : Jvm.MethodName)) ∈ GW := gw_3 144 rfl rfl
theorem kw3_145 : (Cond.code ({ cls := "ExchangeRecordsModel", name := "octet", desc := "(I)B" } : Jvm.MethodName) prog_6_method_33_code (2 : Nat) (Option.some Jvm.ClassFile.FieldType.byte)) ∈ GW := gw_3 145 rfl rfl
theorem kw3_146 : (Cond.arrayClass Jvm.ClassFile.FieldType.long) ∈ GW := gw_3 146 rfl rfl
theorem kw3_147 : (Cond.sameMethod "java/lang/Throwable" "java/lang/Throwable" "fillInStackTrace" "(I)Ljava/lang/Throwable;") ∈ GW := gw_3 147 rfl rfl
theorem ks1_0 : Cond.selects "ExchangeRecords$Input" (⟨"ExchangeRecords$Input", "wrongDigit", "(II)I"⟩ : MethodName) (⟨"ExchangeRecords$Input", "wrongDigit", "(II)I"⟩ : MethodName) ∈ GW := gw_s (q := (⟨"ExchangeRecords$Input", "wrongDigit", "(II)I"⟩, 3)) (List.mem_append_left _ (List.mem_of_getElem? (i := 0) rfl))
theorem ks1_1 : Cond.selects "ExchangeRecords" (⟨"ExchangeRecords", "refuse", "(II)I"⟩ : MethodName) (⟨"ExchangeRecords", "refuse", "(II)I"⟩ : MethodName) ∈ GW := gw_s (q := (⟨"ExchangeRecords", "refuse", "(II)I"⟩, 8)) (List.mem_append_left _ (List.mem_of_getElem? (i := 1) rfl))
theorem ks1_2 : Cond.selects "ExchangeRecords$Input" (⟨"ExchangeRecords$Input", "wrongInLeader", "(I)I"⟩ : MethodName) (⟨"ExchangeRecords$Input", "wrongInLeader", "(I)I"⟩ : MethodName) ∈ GW := gw_s (q := (⟨"ExchangeRecords$Input", "wrongInLeader", "(I)I"⟩, 3)) (List.mem_append_left _ (List.mem_of_getElem? (i := 2) rfl))
theorem ks1_3 : Cond.selects "ExchangeRecords$Input" (⟨"ExchangeRecords$Input", "wrongInRow", "(III)I"⟩ : MethodName) (⟨"ExchangeRecords$Input", "wrongInRow", "(III)I"⟩ : MethodName) ∈ GW := gw_s (q := (⟨"ExchangeRecords$Input", "wrongInRow", "(III)I"⟩, 3)) (List.mem_append_left _ (List.mem_of_getElem? (i := 3) rfl))
theorem ks1_4 : Cond.selects "ExchangeRecords$Input" (⟨"ExchangeRecords$Input", "wrongInControlField", "(II)I"⟩ : MethodName) (⟨"ExchangeRecords$Input", "wrongInControlField", "(II)I"⟩ : MethodName) ∈ GW := gw_s (q := (⟨"ExchangeRecords$Input", "wrongInControlField", "(II)I"⟩, 3)) (List.mem_append_left _ (List.mem_of_getElem? (i := 4) rfl))
theorem ks1_5 : Cond.selects "ExchangeRecords$Input" (⟨"ExchangeRecords$Input", "firstMark", "(II)I"⟩ : MethodName) (⟨"ExchangeRecords$Input", "firstMark", "(II)I"⟩ : MethodName) ∈ GW := gw_s (q := (⟨"ExchangeRecords$Input", "firstMark", "(II)I"⟩, 3)) (List.mem_append_left _ (List.mem_of_getElem? (i := 5) rfl))
theorem ks1_6 : Cond.selects "ExchangeRecords$Input" (⟨"ExchangeRecords$Input", "wrongEnd", "(I)I"⟩ : MethodName) (⟨"ExchangeRecords$Input", "wrongEnd", "(I)I"⟩ : MethodName) ∈ GW := gw_s (q := (⟨"ExchangeRecords$Input", "wrongEnd", "(I)I"⟩, 3)) (List.mem_append_left _ (List.mem_of_getElem? (i := 6) rfl))
theorem ks1_7 : Cond.selects "ExchangeRecords$Input" (⟨"ExchangeRecords$Input", "wrongInOtherField", "(II)I"⟩ : MethodName) (⟨"ExchangeRecords$Input", "wrongInOtherField", "(II)I"⟩ : MethodName) ∈ GW := gw_s (q := (⟨"ExchangeRecords$Input", "wrongInOtherField", "(II)I"⟩, 3)) (List.mem_append_left _ (List.mem_of_getElem? (i := 7) rfl))
theorem ks1_8 : Cond.selects "ExchangeRecords" (⟨"ExchangeRecords", "takeRecord", "()V"⟩ : MethodName) (⟨"ExchangeRecords", "takeRecord", "()V"⟩ : MethodName) ∈ GW := gw_s (q := (⟨"ExchangeRecords", "takeRecord", "()V"⟩, 8)) (List.mem_append_left _ (List.mem_of_getElem? (i := 8) rfl))
theorem ks1_9 : Cond.selects "ExchangeRecords" (⟨"ExchangeRecords", "takeRow", "(II)V"⟩ : MethodName) (⟨"ExchangeRecords", "takeRow", "(II)V"⟩ : MethodName) ∈ GW := gw_s (q := (⟨"ExchangeRecords", "takeRow", "(II)V"⟩, 8)) (List.mem_append_left _ (List.mem_of_getElem? (i := 9) rfl))
theorem ks1_10 : Cond.selects "ExchangeRecords" (⟨"ExchangeRecords", "takeField", "(LExchangeRecords$Field;III)V"⟩ : MethodName) (⟨"ExchangeRecords", "takeField", "(LExchangeRecords$Field;III)V"⟩ : MethodName) ∈ GW := gw_s (q := (⟨"ExchangeRecords", "takeField", "(LExchangeRecords$Field;III)V"⟩, 8)) (List.mem_append_left _ (List.mem_of_getElem? (i := 10) rfl))
theorem ks1_11 : Cond.selects "ExchangeRecords" (⟨"ExchangeRecords", "numbered", "(I)LExchangeRecords$Field;"⟩ : MethodName) (⟨"ExchangeRecords", "numbered", "(I)LExchangeRecords$Field;"⟩ : MethodName) ∈ GW := gw_s (q := (⟨"ExchangeRecords", "numbered", "(I)LExchangeRecords$Field;"⟩, 8)) (List.mem_append_left _ (List.mem_of_getElem? (i := 11) rfl))
theorem ks1_12 : Cond.selects "ExchangeRecords" (⟨"ExchangeRecords", "heldBytes", "()I"⟩ : MethodName) (⟨"ExchangeRecords", "heldBytes", "()I"⟩ : MethodName) ∈ GW := gw_s (q := (⟨"ExchangeRecords", "heldBytes", "()I"⟩, 8)) (List.mem_append_left _ (List.mem_of_getElem? (i := 12) rfl))
theorem ks1_13 : Cond.selects "ExchangeRecords" (⟨"ExchangeRecords", "hasMarkAsIndicator", "()Z"⟩ : MethodName) (⟨"ExchangeRecords", "hasMarkAsIndicator", "()Z"⟩ : MethodName) ∈ GW := gw_s (q := (⟨"ExchangeRecords", "hasMarkAsIndicator", "()Z"⟩, 8)) (List.mem_append_left _ (List.mem_of_getElem? (i := 13) rfl))
theorem ks1_14 : Cond.selects "ExchangeRecords" (⟨"ExchangeRecords", "emitLeader", "(II)V"⟩ : MethodName) (⟨"ExchangeRecords", "emitLeader", "(II)V"⟩ : MethodName) ∈ GW := gw_s (q := (⟨"ExchangeRecords", "emitLeader", "(II)V"⟩, 8)) (List.mem_append_left _ (List.mem_of_getElem? (i := 14) rfl))
theorem ks1_15 : Cond.selects "ExchangeRecords" (⟨"ExchangeRecords", "emitLeaderBytes", "(II)V"⟩ : MethodName) (⟨"ExchangeRecords", "emitLeaderBytes", "(II)V"⟩ : MethodName) ∈ GW := gw_s (q := (⟨"ExchangeRecords", "emitLeaderBytes", "(II)V"⟩, 8)) (List.mem_append_left _ (List.mem_of_getElem? (i := 15) rfl))
theorem ks2_0 : Cond.selects "ExchangeRecords" (⟨"ExchangeRecords", "emitDirectory", "()V"⟩ : MethodName) (⟨"ExchangeRecords", "emitDirectory", "()V"⟩ : MethodName) ∈ GW := gw_s (q := (⟨"ExchangeRecords", "emitDirectory", "()V"⟩, 8)) (List.mem_append_right _ (List.mem_append_left _ (List.mem_of_getElem? (i := 0) rfl)))
theorem ks2_1 : Cond.selects "ExchangeRecords" (⟨"ExchangeRecords", "emitField", "(LExchangeRecords$Field;)V"⟩ : MethodName) (⟨"ExchangeRecords", "emitField", "(LExchangeRecords$Field;)V"⟩ : MethodName) ∈ GW := gw_s (q := (⟨"ExchangeRecords", "emitField", "(LExchangeRecords$Field;)V"⟩, 8)) (List.mem_append_right _ (List.mem_append_left _ (List.mem_of_getElem? (i := 1) rfl)))
theorem ks2_2 : Cond.selects "java/lang/Throwable" (⟨"java/lang/Throwable", "fillInStackTrace", "(I)Ljava/lang/Throwable;"⟩ : MethodName) (⟨"java/lang/Throwable", "fillInStackTrace", "(I)Ljava/lang/Throwable;"⟩ : MethodName) ∈ GW := gw_s (q := (⟨"java/lang/Throwable", "fillInStackTrace", "(I)Ljava/lang/Throwable;"⟩, 6)) (List.mem_append_right _ (List.mem_append_left _ (List.mem_of_getElem? (i := 2) rfl)))
theorem ks2_3 : Cond.selects "ExchangeRecordsModel" (⟨"ExchangeRecordsModel", "digits", "(II)Z"⟩ : MethodName) (⟨"ExchangeRecordsModel", "digits", "(II)Z"⟩ : MethodName) ∈ GW := gw_s (q := (⟨"ExchangeRecordsModel", "digits", "(II)Z"⟩, 16)) (List.mem_append_right _ (List.mem_append_left _ (List.mem_of_getElem? (i := 3) rfl)))
theorem ks2_4 : Cond.selects "ExchangeRecordsModel" (⟨"ExchangeRecordsModel", "look", "(I)I"⟩ : MethodName) (⟨"ExchangeRecordsModel", "look", "(I)I"⟩ : MethodName) ∈ GW := gw_s (q := (⟨"ExchangeRecordsModel", "look", "(I)I"⟩, 16)) (List.mem_append_right _ (List.mem_append_left _ (List.mem_of_getElem? (i := 4) rfl)))
theorem ks2_5 : Cond.selects "ExchangeRecordsModel" (⟨"ExchangeRecordsModel", "bad", "(I)Z"⟩ : MethodName) (⟨"ExchangeRecordsModel", "bad", "(I)Z"⟩ : MethodName) ∈ GW := gw_s (q := (⟨"ExchangeRecordsModel", "bad", "(I)Z"⟩, 16)) (List.mem_append_right _ (List.mem_append_left _ (List.mem_of_getElem? (i := 5) rfl)))
theorem ks2_6 : Cond.selects "ExchangeRecordsModel" (⟨"ExchangeRecordsModel", "number", "(II)I"⟩ : MethodName) (⟨"ExchangeRecordsModel", "number", "(II)I"⟩ : MethodName) ∈ GW := gw_s (q := (⟨"ExchangeRecordsModel", "number", "(II)I"⟩, 16)) (List.mem_append_right _ (List.mem_append_left _ (List.mem_of_getElem? (i := 6) rfl)))
theorem ks2_7 : Cond.selects "ExchangeRecordsModel" (⟨"ExchangeRecordsModel", "reads", "(I)Z"⟩ : MethodName) (⟨"ExchangeRecordsModel", "reads", "(I)Z"⟩ : MethodName) ∈ GW := gw_s (q := (⟨"ExchangeRecordsModel", "reads", "(I)Z"⟩, 16)) (List.mem_append_right _ (List.mem_append_left _ (List.mem_of_getElem? (i := 7) rfl)))
theorem ks2_8 : Cond.selects "ExchangeRecordsModel" (⟨"ExchangeRecordsModel", "must", "(II)Z"⟩ : MethodName) (⟨"ExchangeRecordsModel", "must", "(II)Z"⟩ : MethodName) ∈ GW := gw_s (q := (⟨"ExchangeRecordsModel", "must", "(II)Z"⟩, 16)) (List.mem_append_right _ (List.mem_append_left _ (List.mem_of_getElem? (i := 8) rfl)))
theorem ks2_9 : Cond.selects "ExchangeRecordsModel" (⟨"ExchangeRecordsModel", "heads", "(II)Z"⟩ : MethodName) (⟨"ExchangeRecordsModel", "heads", "(II)Z"⟩ : MethodName) ∈ GW := gw_s (q := (⟨"ExchangeRecordsModel", "heads", "(II)Z"⟩, 16)) (List.mem_append_right _ (List.mem_append_left _ (List.mem_of_getElem? (i := 9) rfl)))
theorem ks2_10 : Cond.selects "ExchangeRecordsModel" (⟨"ExchangeRecordsModel", "row", "(III)Z"⟩ : MethodName) (⟨"ExchangeRecordsModel", "row", "(III)Z"⟩ : MethodName) ∈ GW := gw_s (q := (⟨"ExchangeRecordsModel", "row", "(III)Z"⟩, 16)) (List.mem_append_right _ (List.mem_append_left _ (List.mem_of_getElem? (i := 10) rfl)))
theorem ks2_11 : Cond.selects "ExchangeRecordsModel" (⟨"ExchangeRecordsModel", "control", "(II)Z"⟩ : MethodName) (⟨"ExchangeRecordsModel", "control", "(II)Z"⟩ : MethodName) ∈ GW := gw_s (q := (⟨"ExchangeRecordsModel", "control", "(II)Z"⟩, 16)) (List.mem_append_right _ (List.mem_append_left _ (List.mem_of_getElem? (i := 11) rfl)))
theorem ks2_12 : Cond.selects "ExchangeRecordsModel" (⟨"ExchangeRecordsModel", "data", "(II)Z"⟩ : MethodName) (⟨"ExchangeRecordsModel", "data", "(II)Z"⟩ : MethodName) ∈ GW := gw_s (q := (⟨"ExchangeRecordsModel", "data", "(II)Z"⟩, 16)) (List.mem_append_right _ (List.mem_append_left _ (List.mem_of_getElem? (i := 12) rfl)))
theorem ks2_13 : Cond.selects "ExchangeRecordsModel" (⟨"ExchangeRecordsModel", "keep", "()V"⟩ : MethodName) (⟨"ExchangeRecordsModel", "keep", "()V"⟩ : MethodName) ∈ GW := gw_s (q := (⟨"ExchangeRecordsModel", "keep", "()V"⟩, 16)) (List.mem_append_right _ (List.mem_append_left _ (List.mem_of_getElem? (i := 13) rfl)))
theorem ks2_14 : Cond.selects "ExchangeRecordsModel" (⟨"ExchangeRecordsModel", "isField", "(I)Z"⟩ : MethodName) (⟨"ExchangeRecordsModel", "isField", "(I)Z"⟩ : MethodName) ∈ GW := gw_s (q := (⟨"ExchangeRecordsModel", "isField", "(I)Z"⟩, 16)) (List.mem_append_right _ (List.mem_append_left _ (List.mem_of_getElem? (i := 14) rfl)))
theorem ks2_15 : Cond.selects "ExchangeRecordsModel" (⟨"ExchangeRecordsModel", "at", "(II)I"⟩ : MethodName) (⟨"ExchangeRecordsModel", "at", "(II)I"⟩ : MethodName) ∈ GW := gw_s (q := (⟨"ExchangeRecordsModel", "at", "(II)I"⟩, 16)) (List.mem_append_right _ (List.mem_append_left _ (List.mem_of_getElem? (i := 15) rfl)))
theorem ks3_0 : Cond.selects "ExchangeRecordsModel" (⟨"ExchangeRecordsModel", "together", "()I"⟩ : MethodName) (⟨"ExchangeRecordsModel", "together", "()I"⟩ : MethodName) ∈ GW := gw_s (q := (⟨"ExchangeRecordsModel", "together", "()I"⟩, 16)) (List.mem_append_right _ (List.mem_append_right _ (List.mem_of_getElem? (i := 0) rfl)))
theorem ks3_1 : Cond.selects "ExchangeRecordsModel" (⟨"ExchangeRecordsModel", "append", "(II)V"⟩ : MethodName) (⟨"ExchangeRecordsModel", "append", "(II)V"⟩ : MethodName) ∈ GW := gw_s (q := (⟨"ExchangeRecordsModel", "append", "(II)V"⟩, 16)) (List.mem_append_right _ (List.mem_append_right _ (List.mem_of_getElem? (i := 1) rfl)))
theorem ks3_2 : Cond.selects "ExchangeRecordsModel" (⟨"ExchangeRecordsModel", "sayNumber", "(II)V"⟩ : MethodName) (⟨"ExchangeRecordsModel", "sayNumber", "(II)V"⟩ : MethodName) ∈ GW := gw_s (q := (⟨"ExchangeRecordsModel", "sayNumber", "(II)V"⟩, 16)) (List.mem_append_right _ (List.mem_append_right _ (List.mem_of_getElem? (i := 2) rfl)))
theorem ks3_3 : Cond.selects "ExchangeRecordsModel" (⟨"ExchangeRecordsModel", "say", "(I)V"⟩ : MethodName) (⟨"ExchangeRecordsModel", "say", "(I)V"⟩ : MethodName) ∈ GW := gw_s (q := (⟨"ExchangeRecordsModel", "say", "(I)V"⟩, 16)) (List.mem_append_right _ (List.mem_append_right _ (List.mem_of_getElem? (i := 3) rfl)))
end
section
/-! THE WALKING JUDGEMENT: G says that the machine, in one method's frame at pc with the locals lv and the stack st, over any heap that holds the world ws, comes to the method's end. The heap itself is out of sight. -/
def NW (U : State) : Prop :=
  va_Nw (.fieldLinkNest "ExchangeRecords" 78 "ExchangeRecords$Field" "tag" "I" "ExchangeRecords") U ∧
  va_Nw (.fieldLinkNest "ExchangeRecords" 89 "ExchangeRecords$Field" "first" "I" "ExchangeRecords") U ∧
  va_Nw (.fieldLinkNest "ExchangeRecords" 92 "ExchangeRecords$Field" "second" "I" "ExchangeRecords") U ∧
  va_Nw (.fieldLinkNest "ExchangeRecords" 189 "ExchangeRecords$Field" "size" "I" "ExchangeRecords") U ∧
  va_Nw (.methodLinkNest "ExchangeRecords$Input" 62 ⟨"ExchangeRecords", "isDigit", "(I)Z"⟩ "ExchangeRecords") U ∧
  va_Nw (.methodLinkNest "ExchangeRecords$Input" 40 ⟨"ExchangeRecords", "fixedByte", "(I)I"⟩ "ExchangeRecords") U ∧
  va_Nw (.methodLinkNest "ExchangeRecords$Input" 43 ⟨"ExchangeRecords", "isControl", "(I)Z"⟩ "ExchangeRecords") U ∧
  va_Nw (.methodLinkNest "ExchangeRecords$Input" 59 ⟨"ExchangeRecords", "isMark", "(I)Z"⟩ "ExchangeRecords") U ∧
  va_Nw (.methodLinkNest "ExchangeRecords$Field" 37 ⟨"ExchangeRecords", "isControl", "(I)Z"⟩ "ExchangeRecords") U
theorem NW.moved {s U : State} (hW : s.WarmedH U.vm) (h : NW s) : NW U := by
  obtain ⟨a1, a2, a3, a4, a5, a6, a7, a8, a9⟩ := h
  exact ⟨va_Nw.warmF hW a1, va_Nw.warmF hW a2, va_Nw.warmF hW a3, va_Nw.warmF hW a4, va_Nw.warmM hW a5, va_Nw.warmM hW a6, va_Nw.warmM hW a7, va_Nw.warmM hW a8, va_Nw.warmM hW a9⟩
theorem NW.same {u U : State} (hv : u.vm = U.vm) (h : NW u) : NW U := by
  obtain ⟨a1, a2, a3, a4, a5, a6, a7, a8, a9⟩ := h
  exact ⟨va_Nw.same rfl hv a1, va_Nw.same rfl hv a2, va_Nw.same rfl hv a3, va_Nw.same rfl hv a4, va_Nw.same rfl hv a5, va_Nw.same rfl hv a6, va_Nw.same rfl hv a7, va_Nw.same rfl hv a8, va_Nw.same rfl hv a9⟩
abbrev GE : Type := va_G × ClassId × ClassId × ClassId × ClassId
abbrev tysG (E : GE) : List (ClassId × FieldType) := [(E.2.1, .byte), (E.2.2.1, .int), (E.2.2.2.1, .object "ExchangeRecords$Field"), (E.2.2.2.2, .long)]
abbrev aB (E : GE) (n : Nat) (f : Nat → Int32) : va_E := .inl (E.2.1, n, .inl f)
abbrev aI (E : GE) (n : Nat) (f : Nat → Int32) : va_E := .inl (E.2.2.1, n, .inl f)
abbrev aF (E : GE) (n : Nat) (f : Nat → Option Nat) : va_E := .inl (E.2.2.2.1, n, .inr (.inr (.inr (.inr f))))
abbrev aJ (E : GE) (n : Nat) (f : Nat → Int64) : va_E := .inl (E.2.2.2.2, n, .inr (.inl f))
def KW (E : GE) (U : State) : Prop := va_K E.1 vwCl (tysG E) U ∧ NW U
theorem KW.moved {E : GE} {s U : State} (hW : s.WarmedH U.vm) (h : KW E s) : KW E U := ⟨va_K.moved hW.alike h.1, h.2.moved hW⟩
theorem KW.calling {E : GE} {U : State} {g : JFrame} {mk : MethodId} {a : Array Value} (h : KW E U) : KW E (U.calling g mk a) := ⟨va_K.moved (u := U) (U := U.calling g mk a) (Vm.Alike.refl U.vm) h.1, NW.same (u := U) (U := U.calling g mk a) rfl h.2⟩
/-- what a method owes at its end: an answer and a world, as post says, and nothing else changed -/
def Qs (E : GE) (post : Option Value → va_W → Prop) (ws : va_W) (sz : Nat) : Array Value → State → Outcome → State → Prop := fun _ st oc t =>
  (∃ (v : Option Value) (w' : va_W), oc = .returned v ∧ post v w' ∧ va_P E.1 vwCl w' t.heap ∧ va_D (va_A ws sz) w') ∧ va_F (va_A ws sz) st t
abbrev rmD (d mc ms : Nat) : Room := { frames := d, cells := mc, slots := ms, locals := 40 * d }
abbrev PcS (E : GE) (av : List Value) (ws : va_W) (sz : Nat) : Array Value → State → Prop := va_Pc av (fun U => U.heap.size = sz ∧ va_P E.1 vwCl ws U.heap ∧ KW E U ∧ va_D (fun _ => True) ws)
/-- A METHOD'S CONTRACT: with the arguments av over the world ws it returns, as post says; d: the depth of its calls; mc cells of ms slots may be new -/
def Ctr (l : Launch) (E : GE) (y : MethodName) (cc : ByteArray) (nL : Nat) (ret : Option FieldType) (d mc ms : Nat) (av : List Value) (ws : va_W) (post : Option Value → va_W → Prop) : Prop :=
  ∀ sz : Nat, Met l y (.code y cc nL ret :: GW) (rmD d mc ms) (PcS E av ws sz) (Qs E post ws sz) mc ms (va_A ws sz)
/-- a method's frame and what stays the same in it: program, launch, env, room, start, method, arguments, frames below, method, code, number of locals, writable cells, goal -/
abbrev Cf : Type := Program × Launch × Env × Room × State × MethodId × Array Value × List Frame × Method × Code × Nat × (Nat → Prop) × (State → Prop)
abbrev Cf.p (g : Cf) : Program := g.1
abbrev Cf.l (g : Cf) : Launch := g.2.1
abbrev Cf.e (g : Cf) : Env := g.2.2.1
abbrev Cf.R (g : Cf) : Room := g.2.2.2.1
abbrev Cf.s (g : Cf) : State := g.2.2.2.2.1
abbrev Cf.m (g : Cf) : MethodId := g.2.2.2.2.2.1
abbrev Cf.a (g : Cf) : Array Value := g.2.2.2.2.2.2.1
abbrev Cf.b (g : Cf) : List Frame := g.2.2.2.2.2.2.2.1
abbrev Cf.me (g : Cf) : Method := g.2.2.2.2.2.2.2.2.1
abbrev Cf.c (g : Cf) : Code := g.2.2.2.2.2.2.2.2.2.1
abbrev Cf.n (g : Cf) : Nat := g.2.2.2.2.2.2.2.2.2.2.1
abbrev Cf.A (g : Cf) : Nat → Prop := g.2.2.2.2.2.2.2.2.2.2.2.1
abbrev Cf.Q (g : Cf) : State → Prop := g.2.2.2.2.2.2.2.2.2.2.2.2
abbrev GW_at (g : Cf) (H : Heap) (locs : List Loc) (cells slots pc : Nat) (ls : Array Slot) (st : List Value) : Prop :=
  W g.p g.l g.e g.R g.s g.m g.a g.b g.me g.c H locs cells slots g.Q (F0 g.m pc ls st)
def G (E : GE) (g : Cf) (ws : va_W) (cells slots pc : Nat) (lv : List (Nat × Value)) (st : List Value) : Prop :=
  ∀ (H : Heap) (locs : List Loc) (ls : Array Slot), lv_has ls g.n lv → va_P E.1 vwCl ws H → va_D g.A ws → va_S g.A g.s.heap H locs → GW_at g H locs cells slots pc ls st
/-- the frame is one of the method with these bytes, of this class, that returns so -/
def Cx (E : GE) (g : Cf) (cc : ByteArray) (own : String) (ret : Option FieldType) : Prop :=
  g.p.tables.exec = Jvm.exec ∧ g.c.code = cc ∧ g.c.maxLocals = g.n ∧ g.s.vm.findClass own = some g.m.cls ∧ (∀ w ∈ GW, w.before g.a g.s = true) ∧ KW E g.s ∧ g.me.sig.returnType = ret ∧ g.me.locks = false ∧ ∀ q, g.s.heap.size ≤ q → g.A q
def RF (g : Cf) (d mc ms : Nat) : Prop := d ≤ g.R.frames ∧ mc ≤ g.R.cells ∧ ms ≤ g.R.slots ∧ 40 * d ≤ g.R.locals
/-- what the frame's end asks -/
def Fi (E : GE) (g : Cf) (post : Option Value → va_W → Prop) (ws : va_W) (mc ms : Nat) : Prop :=
  g.A = va_A ws g.s.heap.size ∧ g.Q = MQ g.b (Qs E post ws g.s.heap.size) g.a g.s mc ms (va_A ws g.s.heap.size)
theorem Ctr.intro {l : Launch} {E : GE} {y : MethodName} {cc : ByteArray} {nL : Nat} {ret : Option FieldType} {d mc ms : Nat} {av : List Value} {ws : va_W} {post : Option Value → va_W → Prop}
    (hy : plainName y.cls = true) (hn : (lg_sl av).length ≤ nL)
    (body : ∀ g : Cf, g.l = l → g.n = nL → Cx E g cc y.cls ret → RF g d mc ms → Fi E g post ws mc ms → (y.name = "<init>" → g.me.name = "<init>") → G E g ws 0 0 0 (lv_args 0 av) []) : Ctr l E y cc nL ret d mc ms av ws post := by
  intro sz
  refine Met.ofW (cc := cc) (maxL := nL) (ret := ret) hy rfl ?_
  intro p e s m args below meth c s₁ B hml hv
  obtain ⟨rfl, hsz, hP, hK, hD0⟩ := hv
  subst hsz
  have hts : ∀ w ∈ GW, w.before av.toArray s = true := fun w h => atoms_spec (ws := .code y cc nL ret :: GW) B.pre w (List.mem_cons_of_mem _ h)
  have hl := lv_entry av (n := nL) hn
  rw [lg_entry_eq]
  have hin : y.name = "<init>" → meth.name = "<init>" := fun h => by rw [← h]; exact (name_of_methodNamed B.named B.method).1
  exact body (p, l, e, rmD d mc ms, s, m, av.toArray, below, meth, c, nL, va_A ws s.heap.size, MQ below (Qs E post ws s.heap.size) av.toArray s mc ms (va_A ws s.heap.size)) rfl rfl
    ⟨B.exec, B.bytes, hml, findClass_of_methodNamed B.named, hts, hK, B.returns, B.notSynchronized, fun q h => Or.inr h⟩ ⟨Nat.le_refl _, Nat.le_refl _, Nat.le_refl _, Nat.le_refl _⟩ ⟨rfl, rfl⟩ hin s.heap [] _ hl hP (hD0.self) va_S.rf
section GR
variable {E : GE} {g : Cf} {cc : ByteArray} {own : String} {ret : Option FieldType} {ws : va_W} {cells slots pc : Nat} {lv : List (Nat × Value)} {st : List Value}
theorem g_lv {lv' : List (Nat × Value)} (ks : List Nat) (h : lv_pick lv ks = lv') (k : G E g ws cells slots pc lv' st) : G E g ws cells slots pc lv st :=
  fun H locs ls hl hP hD hS => k H locs ls (lv_sub hl ks h) hP hD hS
theorem g_ws {ws' : va_W} (hP' : ∀ H, va_P E.1 vwCl ws H → va_P E.1 vwCl ws' H) (hD' : va_D g.A ws → va_D g.A ws') (k : G E g ws' cells slots pc lv st) : G E g ws cells slots pc lv st :=
  fun H locs ls hl hP hD hS => k H locs ls hl (hP' H hP) (hD' hD) hS
theorem g_perm {ws' : va_W} (is : List Nat) (hn : va_nd is = true) (hs : is.map (fun i => ws[i]?) = ws'.map some) (k : G E g ws' cells slots pc lv st) : G E g ws cells slots pc lv st :=
  fun H locs ls hl hP hD hS => k H locs ls hl (hP.sub is (by
    have h2 : is.filterMap (fun i => ws[i]?) = (is.map (fun i => ws[i]?)).filterMap id := by rw [List.filterMap_map]; rfl
    rw [h2, hs, List.filterMap_map]
    exact List.filterMap_some)) (hD.sub is hn hs) hS
theorem g_wide {k n : Nat} (h1 : cells ≤ k) (h2 : slots ≤ n) (kk : G E g ws k n pc lv st) : G E g ws cells slots pc lv st :=
  fun H locs ls hl hP hD hS => W.widen h1 h2 (kk H locs ls hl hP hD hS)
theorem g_iload_n (C : Cx E g cc own ret) {k : Fin 4} {x : Int32} (d : decode cc pc = .ok (.iload_n k, 1)) (j : Nat) (h : lv[j]? = some ((k : Nat), .int x)) (kk : G E g ws cells slots (pc + 1) lv (.int x :: st)) : G E g ws cells slots pc lv st :=
  fun H locs ls hl hP hD hS => lv_iload_n C.1 C.2.1 d rfl (lv_at hl j h) (kk H locs ls hl hP hD hS)
theorem g_iload (C : Cx E g cc own ret) {i : Nat} {x : Int32} (d : decode cc pc = .ok (.iload i, 2)) (j : Nat) (h : lv[j]? = some (i, .int x)) (kk : G E g ws cells slots (pc + 2) lv (.int x :: st)) : G E g ws cells slots pc lv st :=
  fun H locs ls hl hP hD hS => lv_iload C.1 C.2.1 d (lv_at hl j h) (kk H locs ls hl hP hD hS)
theorem g_aload_n (C : Cx E g cc own ret) {k : Fin 4} {x : Nat} (d : decode cc pc = .ok (.aload_n k, 1)) (j : Nat) (h : lv[j]? = some ((k : Nat), .ref x)) (kk : G E g ws cells slots (pc + 1) lv (.ref x :: st)) : G E g ws cells slots pc lv st :=
  fun H locs ls hl hP hD hS => lv_aload_n C.1 C.2.1 d rfl (lv_at hl j h) (kk H locs ls hl hP hD hS)
theorem g_aload (C : Cx E g cc own ret) {i : Nat} {x : Nat} (d : decode cc pc = .ok (.aload i, 2)) (j : Nat) (h : lv[j]? = some (i, .ref x)) (kk : G E g ws cells slots (pc + 2) lv (.ref x :: st)) : G E g ws cells slots pc lv st :=
  fun H locs ls hl hP hD hS => lv_aload C.1 C.2.1 d (lv_at hl j h) (kk H locs ls hl hP hD hS)
theorem g_aload_nN (C : Cx E g cc own ret) {k : Fin 4} (d : decode cc pc = .ok (.aload_n k, 1)) (j : Nat) (h : lv[j]? = some ((k : Nat), .null)) (kk : G E g ws cells slots (pc + 1) lv (.null :: st)) : G E g ws cells slots pc lv st :=
  fun H locs ls hl hP hD hS => lv_aload_nN C.1 C.2.1 d rfl (lv_at hl j h) (kk H locs ls hl hP hD hS)
theorem g_aloadN (C : Cx E g cc own ret) {i : Nat} (d : decode cc pc = .ok (.aload i, 2)) (j : Nat) (h : lv[j]? = some (i, .null)) (kk : G E g ws cells slots (pc + 2) lv (.null :: st)) : G E g ws cells slots pc lv st :=
  fun H locs ls hl hP hD hS => lv_aloadN C.1 C.2.1 d (lv_at hl j h) (kk H locs ls hl hP hD hS)
abbrev lv_put (lv : List (Nat × Value)) (i : Nat) (v : Value) : List (Nat × Value) := (i, v) :: lv.filter (fun q => !(q.1 == i) && !(q.1 + 1 == i && q.2.category == 2))
theorem g_istore_n (C : Cx E g cc own ret) {k : Fin 4} {x : Int32} (d : decode cc pc = .ok (.istore_n k, 1)) (hn : (k : Nat) < g.n) {lv' : List (Nat × Value)} (h : lv_put lv (k : Nat) (.int x) = lv') (kk : G E g ws cells slots (pc + 1) lv' st) : G E g ws cells slots pc lv (.int x :: st) :=
  fun H locs ls hl hP hD hS => lv_istore_n C.1 C.2.1 d rfl hl hn h (fun ls' hl' => kk H locs ls' hl' hP hD hS)
theorem g_istore (C : Cx E g cc own ret) {i : Nat} {x : Int32} (d : decode cc pc = .ok (.istore i, 2)) (hn : i < g.n) {lv' : List (Nat × Value)} (h : lv_put lv i (.int x) = lv') (kk : G E g ws cells slots (pc + 2) lv' st) : G E g ws cells slots pc lv (.int x :: st) :=
  fun H locs ls hl hP hD hS => lv_istore C.1 C.2.1 d hl hn h (fun ls' hl' => kk H locs ls' hl' hP hD hS)
theorem g_astore_n (C : Cx E g cc own ret) {k : Fin 4} {x : Nat} (d : decode cc pc = .ok (.astore_n k, 1)) (hn : (k : Nat) < g.n) {lv' : List (Nat × Value)} (h : lv_put lv (k : Nat) (.ref x) = lv') (kk : G E g ws cells slots (pc + 1) lv' st) : G E g ws cells slots pc lv (.ref x :: st) :=
  fun H locs ls hl hP hD hS => lv_astore_n C.1 C.2.1 d rfl hl hn h (fun ls' hl' => kk H locs ls' hl' hP hD hS)
theorem g_astore (C : Cx E g cc own ret) {i : Nat} {x : Nat} (d : decode cc pc = .ok (.astore i, 2)) (hn : i < g.n) {lv' : List (Nat × Value)} (h : lv_put lv i (.ref x) = lv') (kk : G E g ws cells slots (pc + 2) lv' st) : G E g ws cells slots pc lv (.ref x :: st) :=
  fun H locs ls hl hP hD hS => lv_astore C.1 C.2.1 d hl hn h (fun ls' hl' => kk H locs ls' hl' hP hD hS)
theorem g_astore_nN (C : Cx E g cc own ret) {k : Fin 4} (d : decode cc pc = .ok (.astore_n k, 1)) (hn : (k : Nat) < g.n) {lv' : List (Nat × Value)} (h : lv_put lv (k : Nat) .null = lv') (kk : G E g ws cells slots (pc + 1) lv' st) : G E g ws cells slots pc lv (.null :: st) :=
  fun H locs ls hl hP hD hS => lv_astore_nN C.1 C.2.1 d rfl hl hn h (fun ls' hl' => kk H locs ls' hl' hP hD hS)
theorem g_astoreN (C : Cx E g cc own ret) {i : Nat} (d : decode cc pc = .ok (.astore i, 2)) (hn : i < g.n) {lv' : List (Nat × Value)} (h : lv_put lv i .null = lv') (kk : G E g ws cells slots (pc + 2) lv' st) : G E g ws cells slots pc lv (.null :: st) :=
  fun H locs ls hl hP hD hS => lv_astoreN C.1 C.2.1 d hl hn h (fun ls' hl' => kk H locs ls' hl' hP hD hS)
theorem g_iconst (C : Cx E g cc own ret) {n : Int} (d : decode cc pc = .ok (.iconst n, 1)) (hn : (Int32.ofInt n).toInt = n) (kk : ∀ z : Int32, z.toInt = n → G E g ws cells slots (pc + 1) lv (.int z :: st)) : G E g ws cells slots pc lv st :=
  fun H locs ls hl hP hD hS => lv_iconst C.1 C.2.1 d rfl (kk _ hn H locs ls hl hP hD hS)
theorem g_bipush (C : Cx E g cc own ret) {n : Int} (d : decode cc pc = .ok (.bipush n, 2)) (hn : (Int8.ofInt n).toInt32.toInt = n) (kk : ∀ z : Int32, z.toInt = n → G E g ws cells slots (pc + 2) lv (.int z :: st)) : G E g ws cells slots pc lv st :=
  fun H locs ls hl hP hD hS => lv_bipush C.1 C.2.1 d rfl (kk _ hn H locs ls hl hP hD hS)
theorem g_sipush (C : Cx E g cc own ret) {n : Int} (d : decode cc pc = .ok (.sipush n, 3)) (hn : (Int16.ofInt n).toInt32.toInt = n) (kk : ∀ z : Int32, z.toInt = n → G E g ws cells slots (pc + 3) lv (.int z :: st)) : G E g ws cells slots pc lv st :=
  fun H locs ls hl hP hD hS => lv_sipush C.1 C.2.1 d rfl (kk _ hn H locs ls hl hP hD hS)
theorem g_null (C : Cx E g cc own ret) (d : decode cc pc = .ok (.aconst_null, 1)) (kk : G E g ws cells slots (pc + 1) lv (.null :: st)) : G E g ws cells slots pc lv st :=
  fun H locs ls hl hP hD hS => lv_null C.1 C.2.1 d (kk H locs ls hl hP hD hS)
theorem g_dup (C : Cx E g cc own ret) {v : Value} (d : decode cc pc = .ok (.dup, 1)) (hv : v.category = 1) (kk : G E g ws cells slots (pc + 1) lv (v :: v :: st)) : G E g ws cells slots pc lv (v :: st) :=
  fun H locs ls hl hP hD hS => lv_dup C.1 C.2.1 d hv (kk H locs ls hl hP hD hS)
theorem g_pop (C : Cx E g cc own ret) {v : Value} (d : decode cc pc = .ok (.pop, 1)) (hv : v.category = 1) (kk : G E g ws cells slots (pc + 1) lv st) : G E g ws cells slots pc lv (v :: st) :=
  fun H locs ls hl hP hD hS => lv_pop C.1 C.2.1 d hv (kk H locs ls hl hP hD hS)
theorem g_goto (C : Cx E g cc own ret) {off : Int} (tgt : Nat) (d : decode cc pc = .ok (.goto off, 3)) (ht : (pc : Int) + off = (tgt : Int)) (kk : G E g ws cells slots tgt lv st) : G E g ws cells slots pc lv st :=
  fun H locs ls hl hP hD hS => lv_goto C.1 C.2.1 d ht (kk H locs ls hl hP hD hS)
theorem g_ifnull (C : Cx E g cc own ret) {x : Nat} {off : Int} (d : decode cc pc = .ok (.ifnull off, 3)) (kk : G E g ws cells slots (pc + 3) lv st) : G E g ws cells slots pc lv (.ref x :: st) :=
  fun H locs ls hl hP hD hS => lv_ifnull C.1 C.2.1 d (kk H locs ls hl hP hD hS)
theorem g_ifnullN (C : Cx E g cc own ret) {off : Int} (tgt : Nat) (d : decode cc pc = .ok (.ifnull off, 3)) (ht : (pc : Int) + off = (tgt : Int)) (kk : G E g ws cells slots tgt lv st) : G E g ws cells slots pc lv (.null :: st) :=
  fun H locs ls hl hP hD hS => lv_ifnullN C.1 C.2.1 d ht (kk H locs ls hl hP hD hS)
theorem g_ifnonnull (C : Cx E g cc own ret) {x : Nat} {off : Int} (tgt : Nat) (d : decode cc pc = .ok (.ifnonnull off, 3)) (ht : (pc : Int) + off = (tgt : Int)) (kk : G E g ws cells slots tgt lv st) : G E g ws cells slots pc lv (.ref x :: st) :=
  fun H locs ls hl hP hD hS => lv_ifnonnull C.1 C.2.1 d ht (kk H locs ls hl hP hD hS)
end GR
end
section
/-! numbers: every int by its value (toInt) -/
theorem bm_id {x : Int} (h1 : -2147483648 ≤ x) (h2 : x < 2147483648) : x.bmod (2 ^ 32) = x := by
  rw [Int.bmod_def]
  have : ((2 ^ 32 : Nat) : Int) = 4294967296 := by decide
  rw [this]
  split <;> omega
theorem ti_inj {x y : Int32} (h : x.toInt = y.toInt) : x = y := Int32.toInt_inj.mp h
theorem ti_lo (x : Int32) : -2147483648 ≤ x.toInt := by have := Int32.le_toInt x; omega
theorem ti_hi (x : Int32) : x.toInt < 2147483648 := by have := Int32.toInt_lt x; omega
theorem ti_nI {n : Nat} (h : n < 2147483648) : (nI n).toInt = (n : Int) := nI_toInt (by omega)
theorem ti_ofN {x : Int32} {n : Nat} (h : x.toInt = (n : Int)) : x = nI n := ti_inj (by rw [ti_nI]; exact h; have := ti_hi x; omega)
theorem ti_clamp {x : Int32} {n : Nat} (h : x.toInt = (n : Int)) : x.toNatClampNeg = n := by
  have : x.toNatClampNeg = x.toInt.toNat := rfl
  rw [this, h]; rfl
theorem ti_in {x : Int32} {k n : Nat} (h : x.toInt = (k : Int)) (hk : k < n) : vp_in x n := by
  rw [vp_in_iff]; omega
/-- the unsigned value of an int's lowest byte -/
def u8 (x : Int32) : Nat := x.toBitVec.toNat % 256
theorem u8_lt (x : Int32) : u8 x < 256 := Nat.mod_lt _ (by decide)
/-- the signed byte (as an int) of an unsigned one -/
def sB (n : Nat) : Int32 := (Int32.ofNat n).toInt8.toInt32
theorem ti_and255 (x : Int32) : (x &&& 255).toInt = (u8 x : Int) := by
  rw [pk_and x (m := 255) 8 (by decide)]
  exact ti_nI (by have := u8_lt x; unfold u8 at this; omega)
theorem sB_of (x : Int32) : x.toInt8.toInt32 = sB (u8 x) := by
  unfold sB u8
  have h : (x : Int32).toInt8 = (Int32.ofNat (x.toBitVec.toNat % 256)).toInt8 := by
    apply Int8.toBitVec_inj.mp
    apply BitVec.eq_of_toNat_eq
    rw [Int32.toBitVec_toInt8, Int32.toBitVec_toInt8, BitVec.signExtend_eq_setWidth_of_le _ (by decide), BitVec.signExtend_eq_setWidth_of_le _ (by decide)]
    simp [Int32.toBitVec_ofNat]
  rw [h]
theorem u8_sB {n : Nat} (h : n < 256) : u8 (sB n) = n := by
  have : ∀ m : Fin 256, u8 (sB m.val) = m.val := by decide +kernel
  exact this ⟨n, h⟩
theorem vn_byte (x : Int32) : vp_nar .byte x = sB (u8 x) := by rw [vp_nar_byte, sB_of]
theorem ti_add {x y : Int32} (h1 : -2147483648 ≤ x.toInt + y.toInt) (h2 : x.toInt + y.toInt < 2147483648) : (x + y).toInt = x.toInt + y.toInt := by
  rw [Int32.toInt_add]; exact bm_id h1 h2
theorem ti_sub {x y : Int32} (h1 : -2147483648 ≤ x.toInt - y.toInt) (h2 : x.toInt - y.toInt < 2147483648) : (x - y).toInt = x.toInt - y.toInt := by
  rw [Int32.toInt_sub]; exact bm_id h1 h2
theorem ti_mul {x y : Int32} {p : Int} (hp : x.toInt * y.toInt = p) (h1 : -2147483648 ≤ p) (h2 : p < 2147483648) : (x * y).toInt = p := by
  rw [Int32.toInt_mul, hp]; exact bm_id h1 h2
theorem ti_div {x y : Int32} (hx : 0 ≤ x.toInt) (hy : 0 < y.toInt) : (x / y).toInt = x.toInt / y.toInt := by
  rw [Int32.toInt_div, Int.tdiv_eq_ediv_of_nonneg hx]
  refine bm_id ?_ ?_
  · have := Int.ediv_nonneg hx (Int.le_of_lt hy); omega
  · have := Int.ediv_le_self y.toInt hx; have := ti_hi x; omega
section GN
variable {E : GE} {g : Cf} {cc : ByteArray} {own : String} {ret : Option FieldType} {ws : va_W} {cells slots pc : Nat} {lv : List (Nat × Value)} {st : List Value}
theorem g_iadd (C : Cx E g cc own ret) {x y : Int32} (d : decode cc pc = .ok (.iadd, 1)) (h : -2147483648 ≤ x.toInt + y.toInt ∧ x.toInt + y.toInt < 2147483648) (kk : ∀ z : Int32, z.toInt = x.toInt + y.toInt → G E g ws cells slots (pc + 1) lv (.int z :: st)) : G E g ws cells slots pc lv (.int y :: .int x :: st) :=
  fun H locs ls hl hP hD hS => lv_iadd C.1 C.2.1 d (kk _ (ti_add h.1 h.2) H locs ls hl hP hD hS)
theorem g_isub (C : Cx E g cc own ret) {x y : Int32} (d : decode cc pc = .ok (.isub, 1)) (h : -2147483648 ≤ x.toInt - y.toInt ∧ x.toInt - y.toInt < 2147483648) (kk : ∀ z : Int32, z.toInt = x.toInt - y.toInt → G E g ws cells slots (pc + 1) lv (.int z :: st)) : G E g ws cells slots pc lv (.int y :: .int x :: st) :=
  fun H locs ls hl hP hD hS => lv_isub C.1 C.2.1 d (kk _ (ti_sub h.1 h.2) H locs ls hl hP hD hS)
theorem g_imul (C : Cx E g cc own ret) {x y : Int32} (d : decode cc pc = .ok (.imul, 1)) (r : Int) (hr : x.toInt * y.toInt = r) (h : -2147483648 ≤ r ∧ r < 2147483648) (kk : ∀ z : Int32, z.toInt = r → G E g ws cells slots (pc + 1) lv (.int z :: st)) : G E g ws cells slots pc lv (.int y :: .int x :: st) :=
  fun H locs ls hl hP hD hS => lv_imul C.1 C.2.1 d (kk _ (ti_mul hr h.1 h.2) H locs ls hl hP hD hS)
theorem g_idiv (C : Cx E g cc own ret) {x y : Int32} (d : decode cc pc = .ok (.idiv, 1)) (n : Int) (hy : y.toInt = n) (h : 0 ≤ x.toInt ∧ 0 < n) (kk : ∀ z : Int32, z.toInt = x.toInt / n → G E g ws cells slots (pc + 1) lv (.int z :: st)) : G E g ws cells slots pc lv (.int y :: .int x :: st) :=
  fun H locs ls hl hP hD hS => lv_idiv C.1 C.2.1 d (fun q => by rw [q] at hy; have : (0 : Int32).toInt = 0 := rfl; omega) (kk _ (by rw [ti_div h.1 (by omega), hy]) H locs ls hl hP hD hS)
theorem g_irem (C : Cx E g cc own ret) {x y : Int32} (d : decode cc pc = .ok (.irem, 1)) (n : Int) (hy : y.toInt = n) (h : 0 ≤ x.toInt ∧ 0 < n) (kk : ∀ z : Int32, z.toInt = x.toInt % n → G E g ws cells slots (pc + 1) lv (.int z :: st)) : G E g ws cells slots pc lv (.int y :: .int x :: st) :=
  fun H locs ls hl hP hD hS => lv_irem C.1 C.2.1 d (fun q => by rw [q] at hy; have : (0 : Int32).toInt = 0 := rfl; omega) (kk _ (by
    have hd := ti_div h.1 (show 0 < y.toInt by omega)
    have h3 : x.toInt / y.toInt * y.toInt + x.toInt % y.toInt = x.toInt := Int.ediv_mul_add_emod x.toInt y.toInt
    have h4 := Int.emod_nonneg x.toInt (show y.toInt ≠ 0 by omega)
    have h5 := Int.emod_lt_of_pos x.toInt (show 0 < y.toInt by omega)
    have h6 := ti_hi x
    have h7 : 0 ≤ x.toInt / y.toInt * y.toInt := Int.mul_nonneg (Int.ediv_nonneg h.1 (by omega)) (by omega)
    have hm : (x / y * y).toInt = x.toInt - x.toInt % y.toInt := ti_mul (by rw [hd]; omega) (by omega) (by omega)
    rw [ti_sub (by rw [hm]; omega) (by rw [hm]; omega), hm, hy]
    omega) H locs ls hl hP hD hS)
theorem g_iand255 (C : Cx E g cc own ret) {x y : Int32} (d : decode cc pc = .ok (.iand, 1)) (hy : y.toInt = 255) (kk : ∀ z : Int32, z.toInt = (u8 x : Int) → u8 x < 256 → G E g ws cells slots (pc + 1) lv (.int z :: st)) : G E g ws cells slots pc lv (.int y :: .int x :: st) := by
  have : y = 255 := ti_inj hy
  subst this
  exact fun H locs ls hl hP hD hS => lv_iand C.1 C.2.1 d (kk _ (ti_and255 x) (u8_lt x) H locs ls hl hP hD hS)
def sh8 (x : Int32) : Int32 := x >>> ((8 : Int32) &&& 31)
theorem g_ishr8 (C : Cx E g cc own ret) {x y : Int32} (d : decode cc pc = .ok (.ishr, 1)) (hy : y.toInt = 8) (kk : ∀ z : Int32, z = sh8 x → G E g ws cells slots (pc + 1) lv (.int z :: st)) : G E g ws cells slots pc lv (.int y :: .int x :: st) := by
  have : y = 8 := ti_inj hy
  subst this
  exact fun H locs ls hl hP hD hS => lv_ishr C.1 C.2.1 d (kk _ rfl H locs ls hl hP hD hS)
theorem g_i2b (C : Cx E g cc own ret) {x : Int32} (d : decode cc pc = .ok (.i2b, 1)) (kk : ∀ z : Int32, z = sB (u8 x) → G E g ws cells slots (pc + 1) lv (.int z :: st)) : G E g ws cells slots pc lv (.int x :: st) :=
  fun H locs ls hl hP hD hS => lv_i2b C.1 C.2.1 d rfl (kk _ (sB_of x) H locs ls hl hP hD hS)
theorem g_i2l (C : Cx E g cc own ret) {x : Int32} (d : decode cc pc = .ok (.i2l, 1)) (kk : G E g ws cells slots (pc + 1) lv (.long x.toInt64 :: st)) : G E g ws cells slots pc lv (.int x :: st) :=
  fun H locs ls hl hP hD hS => lv_i2l C.1 C.2.1 d rfl (kk H locs ls hl hP hD hS)
theorem g_iinc (C : Cx E g cc own ret) {i : Nat} {n : Int} {x : Int32} (d : decode cc pc = .ok (.iinc i n, 3)) (j : Nat) (hj : lv[j]? = some (i, .int x)) (hi : i < g.n) (hn : (Int32.ofInt n).toInt = n) (h : -2147483648 ≤ x.toInt + n ∧ x.toInt + n < 2147483648) (kk : ∀ z : Int32, z.toInt = x.toInt + n → G E g ws cells slots (pc + 3) (lv_put lv i (.int z)) st) : G E g ws cells slots pc lv st :=
  fun H locs ls hl hP hD hS => lv_iinc C.1 C.2.1 d hl hj rfl hi rfl (fun ls' hl' => kk _ (by rw [ti_add (by rw [hn]; exact h.1) (by rw [hn]; exact h.2), hn]) H locs ls' hl' hP hD hS)
theorem g_icmp_lt (C : Cx E g cc own ret) {x y : Int32} {off : Int} (tgt : Nat) (d : decode cc pc = .ok (.if_icmp .lt off, 3)) (ht : (pc : Int) + off = (tgt : Int)) (kt : x.toInt < y.toInt → G E g ws cells slots tgt lv st) (kf : y.toInt ≤ x.toInt → G E g ws cells slots (pc + 3) lv st) : G E g ws cells slots pc lv (.int y :: .int x :: st) :=
  fun H locs ls hl hP hD hS => lv_icmp_lt C.1 C.2.1 d ht (fun q => kt (Int32.lt_iff_toInt_lt.mp q) H locs ls hl hP hD hS) (fun q => kf (Int.not_lt.mp (fun z => q (Int32.lt_iff_toInt_lt.mpr z))) H locs ls hl hP hD hS)
theorem g_icmp_ge (C : Cx E g cc own ret) {x y : Int32} {off : Int} (tgt : Nat) (d : decode cc pc = .ok (.if_icmp .ge off, 3)) (ht : (pc : Int) + off = (tgt : Int)) (kt : y.toInt ≤ x.toInt → G E g ws cells slots tgt lv st) (kf : x.toInt < y.toInt → G E g ws cells slots (pc + 3) lv st) : G E g ws cells slots pc lv (.int y :: .int x :: st) :=
  fun H locs ls hl hP hD hS => lv_icmp_ge C.1 C.2.1 d ht (fun q => kt (Int32.le_iff_toInt_le.mp q) H locs ls hl hP hD hS) (fun q => kf (Int.not_le.mp (fun z => q (Int32.le_iff_toInt_le.mpr z))) H locs ls hl hP hD hS)
theorem g_icmp_gt (C : Cx E g cc own ret) {x y : Int32} {off : Int} (tgt : Nat) (d : decode cc pc = .ok (.if_icmp .gt off, 3)) (ht : (pc : Int) + off = (tgt : Int)) (kt : y.toInt < x.toInt → G E g ws cells slots tgt lv st) (kf : x.toInt ≤ y.toInt → G E g ws cells slots (pc + 3) lv st) : G E g ws cells slots pc lv (.int y :: .int x :: st) :=
  fun H locs ls hl hP hD hS => lv_icmp_gt C.1 C.2.1 d ht (fun q => kt (Int32.lt_iff_toInt_lt.mp q) H locs ls hl hP hD hS) (fun q => kf (Int.not_lt.mp (fun z => q (Int32.lt_iff_toInt_lt.mpr z))) H locs ls hl hP hD hS)
theorem g_icmp_le (C : Cx E g cc own ret) {x y : Int32} {off : Int} (tgt : Nat) (d : decode cc pc = .ok (.if_icmp .le off, 3)) (ht : (pc : Int) + off = (tgt : Int)) (kt : x.toInt ≤ y.toInt → G E g ws cells slots tgt lv st) (kf : y.toInt < x.toInt → G E g ws cells slots (pc + 3) lv st) : G E g ws cells slots pc lv (.int y :: .int x :: st) :=
  fun H locs ls hl hP hD hS => lv_icmp_le C.1 C.2.1 d ht (fun q => kt (Int32.le_iff_toInt_le.mp q) H locs ls hl hP hD hS) (fun q => kf (Int.not_le.mp (fun z => q (Int32.le_iff_toInt_le.mpr z))) H locs ls hl hP hD hS)
theorem g_icmp_eq (C : Cx E g cc own ret) {x y : Int32} {off : Int} (tgt : Nat) (d : decode cc pc = .ok (.if_icmp .eq off, 3)) (ht : (pc : Int) + off = (tgt : Int)) (kt : x.toInt = y.toInt → G E g ws cells slots tgt lv st) (kf : ¬ x.toInt = y.toInt → G E g ws cells slots (pc + 3) lv st) : G E g ws cells slots pc lv (.int y :: .int x :: st) :=
  fun H locs ls hl hP hD hS => lv_icmp_eq C.1 C.2.1 d ht (fun q => kt (by rw [q]) H locs ls hl hP hD hS) (fun q => kf (fun z => q (ti_inj z)) H locs ls hl hP hD hS)
theorem g_icmp_ne (C : Cx E g cc own ret) {x y : Int32} {off : Int} (tgt : Nat) (d : decode cc pc = .ok (.if_icmp .ne off, 3)) (ht : (pc : Int) + off = (tgt : Int)) (kt : ¬ x.toInt = y.toInt → G E g ws cells slots tgt lv st) (kf : x.toInt = y.toInt → G E g ws cells slots (pc + 3) lv st) : G E g ws cells slots pc lv (.int y :: .int x :: st) :=
  fun H locs ls hl hP hD hS => lv_icmp_ne C.1 C.2.1 d ht (fun q => kt (fun z => q (ti_inj z)) H locs ls hl hP hD hS) (fun q => kf (by rw [q]) H locs ls hl hP hD hS)
theorem g_if_lt (C : Cx E g cc own ret) {x : Int32} {off : Int} (tgt : Nat) (d : decode cc pc = .ok (.ifCond .lt off, 3)) (ht : (pc : Int) + off = (tgt : Int)) (kt : x.toInt < 0 → G E g ws cells slots tgt lv st) (kf : 0 ≤ x.toInt → G E g ws cells slots (pc + 3) lv st) : G E g ws cells slots pc lv (.int x :: st) :=
  fun H locs ls hl hP hD hS => lv_if_lt C.1 C.2.1 d ht (fun q => kt (Int32.lt_iff_toInt_lt.mp q) H locs ls hl hP hD hS) (fun q => kf (Int.not_lt.mp (fun z => q (Int32.lt_iff_toInt_lt.mpr z))) H locs ls hl hP hD hS)
theorem g_if_ge (C : Cx E g cc own ret) {x : Int32} {off : Int} (tgt : Nat) (d : decode cc pc = .ok (.ifCond .ge off, 3)) (ht : (pc : Int) + off = (tgt : Int)) (kt : 0 ≤ x.toInt → G E g ws cells slots tgt lv st) (kf : x.toInt < 0 → G E g ws cells slots (pc + 3) lv st) : G E g ws cells slots pc lv (.int x :: st) :=
  fun H locs ls hl hP hD hS => lv_if_ge C.1 C.2.1 d ht (fun q => kt (Int32.le_iff_toInt_le.mp q) H locs ls hl hP hD hS) (fun q => kf (Int.not_le.mp (fun z => q (Int32.le_iff_toInt_le.mpr z))) H locs ls hl hP hD hS)
theorem g_if_gt (C : Cx E g cc own ret) {x : Int32} {off : Int} (tgt : Nat) (d : decode cc pc = .ok (.ifCond .gt off, 3)) (ht : (pc : Int) + off = (tgt : Int)) (kt : 0 < x.toInt → G E g ws cells slots tgt lv st) (kf : x.toInt ≤ 0 → G E g ws cells slots (pc + 3) lv st) : G E g ws cells slots pc lv (.int x :: st) :=
  fun H locs ls hl hP hD hS => lv_if_gt C.1 C.2.1 d ht (fun q => kt (Int32.lt_iff_toInt_lt.mp q) H locs ls hl hP hD hS) (fun q => kf (Int.not_lt.mp (fun z => q (Int32.lt_iff_toInt_lt.mpr z))) H locs ls hl hP hD hS)
theorem g_if_le (C : Cx E g cc own ret) {x : Int32} {off : Int} (tgt : Nat) (d : decode cc pc = .ok (.ifCond .le off, 3)) (ht : (pc : Int) + off = (tgt : Int)) (kt : x.toInt ≤ 0 → G E g ws cells slots tgt lv st) (kf : 0 < x.toInt → G E g ws cells slots (pc + 3) lv st) : G E g ws cells slots pc lv (.int x :: st) :=
  fun H locs ls hl hP hD hS => lv_if_le C.1 C.2.1 d ht (fun q => kt (Int32.le_iff_toInt_le.mp q) H locs ls hl hP hD hS) (fun q => kf (Int.not_le.mp (fun z => q (Int32.le_iff_toInt_le.mpr z))) H locs ls hl hP hD hS)
theorem g_if_eq (C : Cx E g cc own ret) {x : Int32} {off : Int} (tgt : Nat) (d : decode cc pc = .ok (.ifCond .eq off, 3)) (ht : (pc : Int) + off = (tgt : Int)) (kt : x.toInt = 0 → G E g ws cells slots tgt lv st) (kf : ¬ x.toInt = 0 → G E g ws cells slots (pc + 3) lv st) : G E g ws cells slots pc lv (.int x :: st) :=
  fun H locs ls hl hP hD hS => lv_if_eq C.1 C.2.1 d ht (fun q => kt (by rw [q]; rfl) H locs ls hl hP hD hS) (fun q => kf (fun z => q (ti_inj z)) H locs ls hl hP hD hS)
theorem g_if_ne (C : Cx E g cc own ret) {x : Int32} {off : Int} (tgt : Nat) (d : decode cc pc = .ok (.ifCond .ne off, 3)) (ht : (pc : Int) + off = (tgt : Int)) (kt : ¬ x.toInt = 0 → G E g ws cells slots tgt lv st) (kf : x.toInt = 0 → G E g ws cells slots (pc + 3) lv st) : G E g ws cells slots pc lv (.int x :: st) :=
  fun H locs ls hl hP hD hS => lv_if_ne C.1 C.2.1 d ht (fun q => kt (fun z => q (ti_inj z)) H locs ls hl hP hD hS) (fun q => kf (by rw [q]; rfl) H locs ls hl hP hD hS)
/-! returns -/
theorem g_iret (C : Cx E g cc own ret) {post : Option Value → va_W → Prop} {ws0 : va_W} {mc ms : Nat} (F : Fi E g post ws0 mc ms) {x : Int32} (d : decode cc pc = .ok (.ireturn, 1)) {ty : FieldType} (hr : ret = some ty) (hn : narrow ty (.int x) = .int x) (hc : cells ≤ mc) (hs : slots ≤ ms) (hp : post (some (.int x)) ws) : G E g ws cells slots pc lv [.int x] := by
  intro H locs ls hl hP hD hS
  refine W.widen hc hs ?_
  show W g.p g.l g.e g.R g.s g.m g.a g.b g.me g.c H locs mc ms g.Q (F0 g.m pc ls [.int x])
  rw [F.2]
  rw [F.1] at hD hS
  exact W.zret C.1 C.2.1 (C.2.2.2.2.2.2.1.trans hr) hn (fun t ht hW => ⟨⟨_, ws, rfl, hp, by rw [ht]; exact hP, hD⟩, hS.F ht⟩) hS.2.2 d C.2.2.2.2.2.2.2.1
theorem g_vret (C : Cx E g cc own none) {post : Option Value → va_W → Prop} {ws0 : va_W} {mc ms : Nat} (F : Fi E g post ws0 mc ms) (d : decode cc pc = .ok (.return_, 1)) (hc : cells ≤ mc) (hs : slots ≤ ms) (hp : post none ws) : G E g ws cells slots pc lv [] := by
  intro H locs ls hl hP hD hS
  refine W.widen hc hs ?_
  show W g.p g.l g.e g.R g.s g.m g.a g.b g.me g.c H locs mc ms g.Q (F0 g.m pc ls [])
  rw [F.2]
  rw [F.1] at hD hS
  exact W.vret C.1 C.2.1 C.2.2.2.2.2.2.1 (fun t ht hW => ⟨⟨_, ws, rfl, hp, by rw [ht]; exact hP, hD⟩, hS.F ht⟩) hS.2.2 d C.2.2.2.2.2.2.2.1
theorem g_aret (C : Cx E g cc own ret) {post : Option Value → va_W → Prop} {ws0 : va_W} {mc ms : Nat} (F : Fi E g post ws0 mc ms) {v : Value} (d : decode cc pc = .ok (.areturn, 1)) {rt : FieldType} (hr : ret = some rt) (hrt : (∃ n, rt = .object n) ∨ ∃ t, rt = .array t) (hv : v = .null ∨ ∃ a, v = .ref a) (hc : cells ≤ mc) (hs : slots ≤ ms) (hp : post (some v) ws) : G E g ws cells slots pc lv [v] := by
  intro H locs ls hl hP hD hS
  refine W.widen hc hs ?_
  show W g.p g.l g.e g.R g.s g.m g.a g.b g.me g.c H locs mc ms g.Q (F0 g.m pc ls [v])
  rw [F.2]
  rw [F.1] at hD hS
  exact W.aret C.1 C.2.1 (C.2.2.2.2.2.2.1.trans hr) hrt hv (fun t ht hW => ⟨⟨_, ws, rfl, hp, by rw [ht]; exact hP, hD⟩, hS.F ht⟩) hS.2.2 d C.2.2.2.2.2.2.2.1
end GN
end
section
/-! objects, arrays, calls -/
theorem inG_X0 : ∀ w ∈ wsX00, w ∈ GW := by decide +kernel
theorem inG_X1 : ∀ w ∈ wsX10, w ∈ GW := by decide +kernel
theorem inG_X2 : ∀ w ∈ wsX20, w ∈ GW := by decide +kernel
theorem inG_X3 : ∀ w ∈ wsX30, w ∈ GW := by decide +kernel
theorem inG_X4 : ∀ w ∈ wsX40, w ∈ GW := by decide +kernel
section GO
variable {E : GE} {g : Cf} {cc : ByteArray} {own : String} {ret : Option FieldType} {ws : va_W} {cells slots pc : Nat} {lv : List (Nat × Value)} {st : List Value} {a : Nat}
theorem Cx.wd (C : Cx E g cc own ret) {w : Cond} (h : w ∈ GW) : w.before g.a g.s = true := C.2.2.2.2.1 w h
theorem g_get (C : Cx E g cc own ret) {Cn : String} {T : u_T} {N ci index : Nat} (hin : ∀ w ∈ u_ws Cn T N, w ∈ GW) (hc : vwCl[ci]? = some (Cn, T, N)) (k : Nat) (hk : k < N) (hw : Cond.fieldLink own index (T k).1 (T k).2.1 (T k).2.2.1 ∈ GW) (q0 : Nat) {fs : List Value} {v : Value} (he : ws[q0]? = some (a, .inr (ci, fs))) (hv : fs[k]? = some v) (d : decode cc pc = .ok (.getfield index, 3)) (kk : G E g ws cells slots (pc + 3) lv (v :: st)) : G E g ws cells slots pc lv (.ref a :: st) :=
  fun H locs ls hl hP hD hS => va_get (D := E.1) C.1 C.2.1 C.2.2.2.2.1 hin C.2.2.2.1 C.2.2.2.2.2.1.1 hP q0 he hc k hk (C.wd hw) (fun _ h => h) hv d (kk H locs ls hl hP hD hS)
theorem g_getN (C : Cx E g cc own ret) {Cn host : String} {T : u_T} {N ci index : Nat} (hin : ∀ w ∈ u_ws Cn T N, w ∈ GW) (hc : vwCl[ci]? = some (Cn, T, N)) (k : Nat) (hk : k < N) (hw : va_Nw (.fieldLinkNest own index (T k).1 (T k).2.1 (T k).2.2.1 host) g.s) (q0 : Nat) {fs : List Value} {v : Value} (he : ws[q0]? = some (a, .inr (ci, fs))) (hv : fs[k]? = some v) (d : decode cc pc = .ok (.getfield index, 3)) (kk : G E g ws cells slots (pc + 3) lv (v :: st)) : G E g ws cells slots pc lv (.ref a :: st) :=
  fun H locs ls hl hP hD hS => va_getN (D := E.1) C.1 C.2.1 C.2.2.2.2.1 hin C.2.2.2.1 C.2.2.2.2.2.1.1 hP q0 he hc k hk (va_Nw.use rfl hw) (fun _ h => h) hv d (kk H locs ls hl hP hD hS)
theorem g_put (C : Cx E g cc own ret) {Cn : String} {T : u_T} {N ci index : Nat} (hin : ∀ w ∈ u_ws Cn T N, w ∈ GW) (ty0 : Nat → FieldType) (hty : ∀ k, k < N → parseFieldDescriptor (T k).2.2.1 = some (ty0 k)) (hnm : ∀ a, a < N → ∀ b, b < N → a ≠ b → (T a).2.1 ≠ (T b).2.1) (hc : vwCl[ci]? = some (Cn, T, N)) (k : Nat) (hk : k < N) (hfin : (T k).2.2.2 = false) (hw : Cond.fieldLink own index (T k).1 (T k).2.1 (T k).2.2.1 ∈ GW) (q0 : Nat) {fs : List Value} {v : Value} (he : ws[q0]? = some (a, .inr (ci, fs))) (hl : k < fs.length) (hn : narrow (ty0 k) v = v) (hfit : fits (ty0 k) v = true) (d : decode cc pc = .ok (.putfield index, 3)) (kk : G E g (ws.set q0 (a, .inr (ci, fs.set k v))) cells slots (pc + 3) lv st) : G E g ws cells slots pc lv (v :: .ref a :: st) :=
  fun H locs ls hl' hP hD hS => va_put (D := E.1) C.1 C.2.1 C.2.2.2.2.1 hin ty0 hty hnm C.2.2.2.1 C.2.2.2.2.2.1.1 hP hD hS q0 he hc k hk (C.wd hw) (fun _ h => h) hfin (hty k hk) hn hfit hl d (fun H1 locs1 hP1 hD1 hS1 => kk H1 locs1 ls hl' hP1 hD1 hS1)
theorem g_putF (C : Cx E g cc own ret) (hi : g.me.name = "<init>") {Cn : String} {T : u_T} {N ci index : Nat} (hin : ∀ w ∈ u_ws Cn T N, w ∈ GW) (ty0 : Nat → FieldType) (hty : ∀ k, k < N → parseFieldDescriptor (T k).2.2.1 = some (ty0 k)) (hnm : ∀ a, a < N → ∀ b, b < N → a ≠ b → (T a).2.1 ≠ (T b).2.1) (hc : vwCl[ci]? = some (Cn, T, N)) (k : Nat) (hk : k < N) (hfin : (T k).2.2.2 = true) (hdecl : (T k).1 = own) (hw : Cond.fieldLink own index (T k).1 (T k).2.1 (T k).2.2.1 ∈ GW) (q0 : Nat) {fs : List Value} {v : Value} (he : ws[q0]? = some (a, .inr (ci, fs))) (hl : k < fs.length) (hn : narrow (ty0 k) v = v) (hfit : fits (ty0 k) v = true) (d : decode cc pc = .ok (.putfield index, 3)) (kk : G E g (ws.set q0 (a, .inr (ci, fs.set k v))) cells slots (pc + 3) lv st) : G E g ws cells slots pc lv (v :: .ref a :: st) :=
  fun H locs ls hl' hP hD hS => va_putF (D := E.1) C.1 C.2.1 C.2.2.2.2.1 hin ty0 hty hnm C.2.2.2.1 C.2.2.2.2.2.1.1 hP hD hS q0 he hc k hk (C.wd hw) (fun _ h => h) hfin hi hdecl (hty k hk) hn hfit hl d (fun H1 locs1 hP1 hD1 hS1 => kk H1 locs1 ls hl' hP1 hD1 hS1)
theorem g_baload (C : Cx E g cc own ret) {i : Int32} {n : Nat} {f : Nat → Int32} (q0 : Nat) (he : ws[q0]? = some (a, aB E n f)) (d : decode cc pc = .ok (.baload, 1)) (k : Nat) (hk : i.toInt = (k : Int)) (hn : k < n) (kk : ∀ z : Int32, z = f k → G E g ws cells slots (pc + 1) lv (.int z :: st)) : G E g ws cells slots pc lv (.int i :: .ref a :: st) :=
  fun H locs ls hl hP hD hS => va_bald (D := E.1) C.1 C.2.1 C.2.2.2.2.2.1.1 hP q0 0 he rfl (ti_in hk hn) d (kk _ (by rw [ti_clamp hk]) H locs ls hl hP hD hS)
theorem g_iaload (C : Cx E g cc own ret) {i : Int32} {n : Nat} {f : Nat → Int32} (q0 : Nat) (he : ws[q0]? = some (a, aI E n f)) (d : decode cc pc = .ok (.iaload, 1)) (k : Nat) (hk : i.toInt = (k : Int)) (hn : k < n) (kk : ∀ z : Int32, z = f k → G E g ws cells slots (pc + 1) lv (.int z :: st)) : G E g ws cells slots pc lv (.int i :: .ref a :: st) :=
  fun H locs ls hl hP hD hS => va_iald (D := E.1) C.1 C.2.1 C.2.2.2.2.2.1.1 hP q0 1 he rfl (ti_in hk hn) d (kk _ (by rw [ti_clamp hk]) H locs ls hl hP hD hS)
theorem g_laload (C : Cx E g cc own ret) {i : Int32} {n : Nat} {f : Nat → Int64} (q0 : Nat) (he : ws[q0]? = some (a, aJ E n f)) (d : decode cc pc = .ok (.laload, 1)) (k : Nat) (hk : i.toInt = (k : Int)) (hn : k < n) (kk : G E g ws cells slots (pc + 1) lv (.long (f k) :: st)) : G E g ws cells slots pc lv (.int i :: .ref a :: st) :=
  fun H locs ls hl hP hD hS => va_lald (D := E.1) C.1 C.2.1 C.2.2.2.2.2.1.1 hP q0 3 he rfl (ti_in hk hn) d (by rw [ti_clamp hk]; exact kk H locs ls hl hP hD hS)
theorem g_aaload (C : Cx E g cc own ret) {i : Int32} {n : Nat} {f : Nat → Option Nat} (q0 : Nat) (he : ws[q0]? = some (a, aF E n f)) (d : decode cc pc = .ok (.aaload, 1)) (k : Nat) (hk : i.toInt = (k : Int)) (hn : k < n) {r : Nat} (hr : f k = some r) (kk : G E g ws cells slots (pc + 1) lv (.ref r :: st)) : G E g ws cells slots pc lv (.int i :: .ref a :: st) :=
  fun H locs ls hl hP hD hS => va_aldq (D := E.1) C.1 C.2.1 C.2.2.2.2.2.1.1 hP q0 2 he rfl (ti_in hk hn) d (by rw [ti_clamp hk, hr]; exact kk H locs ls hl hP hD hS)
theorem g_bastore (C : Cx E g cc own ret) {i x : Int32} {n : Nat} {f : Nat → Int32} (q0 : Nat) (he : ws[q0]? = some (a, aB E n f)) (d : decode cc pc = .ok (.bastore, 1)) (k : Nat) (hk : i.toInt = (k : Int)) (hn : k < n) (kk : G E g (ws.set q0 (a, aB E n (upd f k (sB (u8 x))))) cells slots (pc + 1) lv st) : G E g ws cells slots pc lv (.int x :: .int i :: .ref a :: st) :=
  fun H locs ls hl hP hD hS => va_bast (D := E.1) C.1 C.2.1 C.2.2.2.2.2.1.1 hP hD hS q0 0 he rfl (ti_in hk hn) d (fun H1 locs1 hP1 hD1 hS1 => by
    rw [ti_clamp hk, vn_byte] at hP1 hD1
    exact kk H1 locs1 ls hl hP1 hD1 hS1)
theorem g_iastore (C : Cx E g cc own ret) {i x : Int32} {n : Nat} {f : Nat → Int32} (q0 : Nat) (he : ws[q0]? = some (a, aI E n f)) (d : decode cc pc = .ok (.iastore, 1)) (k : Nat) (hk : i.toInt = (k : Int)) (hn : k < n) (kk : G E g (ws.set q0 (a, aI E n (upd f k x))) cells slots (pc + 1) lv st) : G E g ws cells slots pc lv (.int x :: .int i :: .ref a :: st) :=
  fun H locs ls hl hP hD hS => va_iast (D := E.1) C.1 C.2.1 C.2.2.2.2.2.1.1 hP hD hS q0 1 he rfl (ti_in hk hn) d (fun H1 locs1 hP1 hD1 hS1 => by
    rw [ti_clamp hk] at hP1 hD1
    exact kk H1 locs1 ls hl hP1 hD1 hS1)
theorem g_alenB (C : Cx E g cc own ret) {n : Nat} {f : Nat → Int32} (q0 : Nat) (he : ws[q0]? = some (a, aB E n f)) (d : decode cc pc = .ok (.arraylength, 1)) (hn : n < 2147483648) (kk : ∀ z : Int32, z.toInt = (n : Int) → G E g ws cells slots (pc + 1) lv (.int z :: st)) : G E g ws cells slots pc lv (.ref a :: st) :=
  fun H locs ls hl hP hD hS => va_alen (D := E.1) C.1 C.2.1 C.2.2.2.2.2.1.1 hP q0 0 he rfl rfl d (kk _ (ti_nI hn) H locs ls hl hP hD hS)
theorem g_newB (C : Cx E g cc own ret) {D mc ms : Nat} (r : RF g D mc ms) {n : Int32} (d : decode cc pc = .ok (.newarray .byte, 2)) (N : Nat) (hN : n.toInt = (N : Int)) (hb : N ≤ 500000000) (h1 : cells + 1 ≤ mc) (h2 : slots + N ≤ ms) (kk : ∀ q : Nat, G E g (ws ++ [(q, aB E N (fun _ => 0))]) (cells + 1) (slots + N) (pc + 2) lv (.ref q :: st)) : G E g ws cells slots pc lv (.int n :: st) :=
  fun H locs ls hl hP hD hS => va_newa (D := E.1) (atype := .byte) (a0 := (N, .inl (fun _ => 0))) C.1 C.2.1 (C.wd kw1_39) rfl C.2.2.2.2.2.1.1 hP hD hS C.2.2.2.2.2.2.2.2 (fun _ => rfl) (fun q => by have := Int32.lt_iff_toInt_lt.mp q; have h0 : (0 : Int32).toInt = 0 := rfl; omega) (ti_clamp hN) (by show N * 1 ≤ _; omega) (Nat.le_trans h1 r.2.1) (Nat.le_trans h2 r.2.2.1) d (fun q cA H1 hK1 hP1 hD1 hS1 => by
    have e : cA = E.2.1 := Option.some.inj (((hK1.2 4 _ rfl).2 : g.s.vm.findClass _ = some cA).symm.trans ((hK1.2 0 _ rfl).2 : g.s.vm.findClass _ = some E.2.1))
    subst e
    exact kk q H1 locs ls hl hP1 hD1 hS1)
theorem g_newI (C : Cx E g cc own ret) {D mc ms : Nat} (r : RF g D mc ms) {n : Int32} (d : decode cc pc = .ok (.newarray .int, 2)) (N : Nat) (hN : n.toInt = (N : Int)) (hb : N ≤ 100000000) (h1 : cells + 1 ≤ mc) (h2 : slots + N ≤ ms) (kk : ∀ q : Nat, G E g (ws ++ [(q, aI E N (fun _ => 0))]) (cells + 1) (slots + N) (pc + 2) lv (.ref q :: st)) : G E g ws cells slots pc lv (.int n :: st) :=
  fun H locs ls hl hP hD hS => va_newa (D := E.1) (atype := .int) (a0 := (N, .inl (fun _ => 0))) C.1 C.2.1 (C.wd kw1_108) rfl C.2.2.2.2.2.1.1 hP hD hS C.2.2.2.2.2.2.2.2 (fun _ => rfl) (fun q => by have := Int32.lt_iff_toInt_lt.mp q; have h0 : (0 : Int32).toInt = 0 := rfl; omega) (ti_clamp hN) (by show N * 4 ≤ _; omega) (Nat.le_trans h1 r.2.1) (Nat.le_trans h2 r.2.2.1) d (fun q cA H1 hK1 hP1 hD1 hS1 => by
    have e : cA = E.2.2.1 := Option.some.inj (((hK1.2 4 _ rfl).2 : g.s.vm.findClass _ = some cA).symm.trans ((hK1.2 1 _ rfl).2 : g.s.vm.findClass _ = some E.2.2.1))
    subst e
    exact kk q H1 locs ls hl hP1 hD1 hS1)
theorem g_objInit (C : Cx E g cc own ret) {D mc ms : Nat} (r : RF g D mc ms) (hD1 : 1 ≤ D) {idx : Nat} (hw : Cond.methodLink own idx Lib.objectInit ∈ GW) (d : decode cc pc = .ok (.invokespecial idx, 3)) (hst : (st.map fun v => v.category).sum ≤ 8) (kk : G E g ws cells slots (pc + 3) lv st) : G E g ws cells slots pc lv (.ref a :: st) :=
  fun H locs ls hl hP hD hS => W.objInit C.1 C.2.1 C.2.2.2.1 (C.wd hw) (C.wd kw1_21) (C.wd kw1_22) (g := F0 g.m pc ls (.ref a :: st)) rfl (by rw [C.2.2.1]; exact hl.1) rfl d (by have := r.1; omega) (by have := r.2.2.2; show 2 * 0 + _ + 12 ≤ _; omega) (kk H locs ls hl hP hD hS)
end GO
/-- ws is wr and wc side by side -/
def Spl (ws wr wc : va_W) : Prop := (∀ (D : va_G) (cl : List vw_C) (H : Heap), va_P D cl ws H → va_P D cl wr H ∧ va_P D cl wc H) ∧ ∀ A : Nat → Prop, va_D A ws → va_D A (wr ++ wc)
theorem sub_fm {ws ws' : va_W} {is : List Nat} (hs : is.map (fun i => ws[i]?) = ws'.map some) : is.filterMap (fun i => ws[i]?) = ws' := by
  have h2 : is.filterMap (fun i => ws[i]?) = (is.map (fun i => ws[i]?)).filterMap id := by rw [List.filterMap_map]; rfl
  rw [h2, hs, List.filterMap_map]
  exact List.filterMap_some
theorem Spl.at {ws wr wc : va_W} (isR isC : List Nat) (hR : isR.map (fun i => ws[i]?) = wr.map some) (hC : isC.map (fun i => ws[i]?) = wc.map some) (hn : va_nd (isR ++ isC) = true) : Spl ws wr wc :=
  ⟨fun _ _ _ hP => ⟨hP.sub isR (sub_fm hR), hP.sub isC (sub_fm hC)⟩, fun _ hD => hD.sub (isR ++ isC) hn (by rw [List.map_append, List.map_append, hR, hC])⟩
theorem Spl.all (ws : va_W) : Spl ws [] ws := ⟨fun _ _ _ hP => ⟨fun k q h => by simp at h, hP⟩, fun _ hD => hD⟩
theorem va_D.left {A : Nat → Prop} {w1 w2 : va_W} (h : va_D A (w1 ++ w2)) : va_D A w1 := by
  have key : ∀ (k : Nat) (q : Nat × va_E), w1[k]? = some q → (w1 ++ w2)[k]? = some q := fun k q hk => by
    rw [List.getElem?_append_left (List.getElem?_eq_some_iff.mp hk).1]; exact hk
  exact ⟨fun i j p q hi hj => h.1 i j p q (key i p hi) (key j q hj), fun k q hk => h.2 k q (key k q hk)⟩
theorem va_D.right {A : Nat → Prop} {w1 w2 : va_W} (h : va_D A (w1 ++ w2)) : va_D A w2 := by
  have key : ∀ (k : Nat) (q : Nat × va_E), w2[k]? = some q → (w1 ++ w2)[w1.length + k]? = some q := fun k q hk => by
    rw [List.getElem?_append_right (by omega), Nat.add_sub_cancel_left]; exact hk
  exact ⟨fun i j p q hi hj e => by have := h.1 _ _ p q (key i p hi) (key j q hj) e; omega, fun k q hk => h.2 _ q (key k q hk)⟩
theorem va_D.cross {A : Nat → Prop} {w1 w2 : va_W} (h : va_D A (w1 ++ w2)) {i j : Nat} {p q : Nat × va_E} (hi : w1[i]? = some p) (hj : w2[j]? = some q) : p.1 ≠ q.1 := by
  intro e
  have h1 : (w1 ++ w2)[i]? = some p := by rw [List.getElem?_append_left (List.getElem?_eq_some_iff.mp hi).1]; exact hi
  have h2 : (w1 ++ w2)[w1.length + j]? = some q := by rw [List.getElem?_append_right (by omega), Nat.add_sub_cancel_left]; exact hj
  have := h.1 _ _ p q h1 h2 e
  have := (List.getElem?_eq_some_iff.mp hi).1
  omega
section GC
variable {E : GE} {g : Cf} {cc : ByteArray} {own : String} {ret : Option FieldType} {ws wr wc : va_W} {cells slots pc : Nat} {lv : List (Nat × Value)} {st0 rest : List Value}
/-- behind a call: the rest of the world, and the callee's -/
theorem g_run (C : Cx E g cc own ret) {mc ms : Nat} {a : Array Value} {post : Option Value → va_W → Prop} (sp : Spl ws wr wc)
    (hr : ∀ (H : Heap) (locs : List Loc) (ls : Array Slot), lv_has ls g.n lv → va_P E.1 vwCl wc H → va_D (fun _ => True) wc → va_Run g.p g.l g.e g.R g.s g.m g.a g.b g.me g.c H locs cells slots mc ms (F0 g.m pc ls st0) rest (Qs E post wc H.size a) (va_A wc H.size))
    (kk : ∀ (v : Option Value) (w' : va_W), post v w' → G E g (wr ++ w') (cells + mc) (slots + ms) (pc + 3) lv (v.toList ++ rest)) : G E g ws cells slots pc lv st0 := by
  intro H locs ls hl hP hD hS T hT X
  obtain ⟨hPr, hPc⟩ := sp.1 _ _ _ hP
  have hDD := sp.2 _ hD
  obtain ⟨v, st₀, t, T', L, h0, X', hL, e1, e2, ⟨⟨v', w', hv, hp, hP1, hD1⟩, hz, hk⟩, stp⟩ := hr H locs ls hl hPc (hDD.right.weaken (fun _ _ _ _ => trivial)) T hT X
  cases hv
  rw [h0] at hz hk
  have hF : ∀ q, va_A wc H.size q → g.A q := by
    intro q hq
    rcases hq with ⟨k, e, hq⟩ | hq
    · exact hDD.right.2 k _ hq
    · exact C.2.2.2.2.2.2.2.2 q (Nat.le_trans hS.1 hq)
  have apart : ∀ (k : Nat) (q : Nat × va_E), wr[k]? = some q → q.1 < H.size ∧ ¬ va_A wc H.size q.1 := by
    intro k q hq
    have hlt := (hPr k q hq).lt
    refine ⟨hlt, fun h => ?_⟩
    rcases h with ⟨k2, e, h⟩ | h
    · exact hDD.cross hq h rfl
    · omega
  have hPn : va_P E.1 vwCl (wr ++ w') T'.heap := va_P.app (fun k q hq => (hPr k q hq).kept (by rw [e1]; exact hk q.1 (apart k q hq).1 (apart k q hq).2)) (by rw [e1]; exact hP1)
  have hDn : va_D g.A (wr ++ w') := va_D.app hDD.left (hD1.weaken (fun k q _ h => hF q.1 h)) (fun i j x y hx hy hxy => (apart i x hx).2 (by rw [hxy]; exact hD1.2 j y hy))
  obtain ⟨t2, a1, b1⟩ := kk v w' hp T'.heap (locs ++ L) ls hl hPn hDn
    ⟨Nat.le_trans hS.1 (by rw [e1]; exact hz), fun q h1 h2 => by rw [e1, hk q (Nat.lt_of_lt_of_le h1 hS.1) (fun z => h2 (hF q z))]; exact hS.2.1 q h1 h2, fun q hq => by
      rcases List.mem_append.mp hq with h | h
      · exact hS.2.2 q h
      · exact hF _ (hL q h)⟩ T' rfl X'
  exact ⟨t2, stp t2 a1, b1⟩
theorem gi_GW {w : Cond} (h : w ∈ GW) : w ∈ GW ∧ ((w.onTables && w.keeps) = true ∨ ∃ ty, w = .arrayClass ty) := ⟨h, good_of_word (List.mem_filter.mp h).2⟩
theorem gi_c {w : Cond} (hw : w ∈ GW) : GoodIn GW (w :: GW) := fun x hx => (List.mem_cons.mp hx).elim (fun e => by rw [e]; exact gi_GW hw) gi_GW
theorem fb_S {E : GE} {av : List Value} {ws : va_W} {sz : Nat} : FrameBlind (PcS E av ws sz) := fun _ _ _ _ h => ⟨h.1, h.2.1, h.2.2.1, h.2.2.2.1.calling, h.2.2.2.2⟩
/-- the words of a call of an instance method by its own class -/
def MV (own : String) (index : Nat) (y : MethodName) (yc : ByteArray) (nL : Nat) (ret : Option FieldType) (n : Nat) : Prop :=
  Cond.methodLink own index y ∈ GW ∧ Cond.instanceMethod y ∈ GW ∧ Cond.selects y.cls y y ∈ GW ∧ Cond.initialized y.cls ∈ GW ∧ Cond.code y yc nL ret ∈ GW ∧ (y.cls ≠ "java/lang/invoke/MethodHandle" ∧ y.cls ≠ "java/lang/invoke/VarHandle" ∧ (parseMethodDescriptor y.desc).map (fun d => d.parameters.length) = some n) ∧ nL ≤ 21
def MS (own : String) (index : Nat) (y : MethodName) (yc : ByteArray) (nL : Nat) (ret : Option FieldType) (n : Nat) : Prop :=
  Cond.methodLink own index y ∈ GW ∧ Cond.static y ∈ GW ∧ Cond.initialized y.cls ∈ GW ∧ Cond.code y yc nL ret ∈ GW ∧ (y.cls ≠ "java/lang/invoke/MethodHandle" ∧ y.cls ≠ "java/lang/invoke/VarHandle" ∧ (parseMethodDescriptor y.desc).map (fun d => d.parameters.length) = some n) ∧ nL ≤ 21
def MN (own host : String) (index : Nat) (y : MethodName) (yc : ByteArray) (nL : Nat) (ret : Option FieldType) (n : Nat) : Prop :=
  (∀ U : State, NW U → va_Nw (.methodLinkNest own index y host) U) ∧ Cond.static y ∈ GW ∧ Cond.initialized y.cls ∈ GW ∧ Cond.code y yc nL ret ∈ GW ∧ (y.cls ≠ "java/lang/invoke/MethodHandle" ∧ y.cls ≠ "java/lang/invoke/VarHandle" ∧ (parseMethodDescriptor y.desc).map (fun d => d.parameters.length) = some n) ∧ nL ≤ 21
def MI (own : String) (index : Nat) (y : MethodName) (yc : ByteArray) (nL : Nat) (n : Nat) : Prop :=
  Cond.methodLink own index y ∈ GW ∧ Cond.instanceMethod y ∈ GW ∧ Cond.initialized y.cls ∈ GW ∧ Cond.code y yc nL none ∈ GW ∧ (y.cls ≠ "java/lang/invoke/MethodHandle" ∧ y.cls ≠ "java/lang/invoke/VarHandle" ∧ (parseMethodDescriptor y.desc).map (fun d => d.parameters.length) = some n) ∧ nL ≤ 21 ∧ y.name = "<init>"
variable {y : MethodName} {yc : ByteArray} {nL index n D mcT msT d mc ms : Nat} {ry : Option FieldType} {post : Option Value → va_W → Prop} {b : Nat} {As : List Value}
theorem g_callV (C : Cx E g cc own ret) (r : RF g D mcT msT) (mv : MV own index y yc nL ry n) (dd : decode cc pc = .ok (.invokevirtual index, 3)) (hM : Ctr g.l E y yc nL ry d mc ms (.ref b :: As) wc post) (sp : Spl ws wr wc) (q0 : Nat) {ci : Nat} {q : vw_C} {fs : List Value} (he : wc[q0]? = some (b, .inr (ci, fs))) (hc : vwCl[ci]? = some q) (hq : q.1 = y.cls) (hn : As.length = n) (hst : (rest.map fun v => v.category).sum ≤ 8) (hd : d + 1 ≤ D) (h1 : cells + mc ≤ mcT) (h2 : slots + ms ≤ msT)
    (kk : ∀ (v : Option Value) (w' : va_W), post v w' → G E g (wr ++ w') (cells + mc) (slots + ms) (pc + 3) lv (v.toList ++ rest)) : G E g ws cells slots pc lv (As.reverse ++ .ref b :: rest) := by
  obtain ⟨k1, k2, k3, k4, k5, k6, k7⟩ := mv
  refine g_run C (a := (Value.ref b :: As).toArray) sp (fun H locs ls hl hPc hDc => ?_) kk
  refine va_runV (Ts := GW) (own := own) (As := As) (C := y.cls) (bytes := yc) (maxL := nL) (ret := ry) (n := n) ⟨C.1, C.2.1, C.2.2.1, C.2.2.2.1, C.2.2.2.2.1⟩ (hM H.size) ⟨callB_of n C.2.2.2.2.1 (gi_c k5) rfl rfl rfl (C.wd k4) (C.wd k1) k6 ⟨by show d + 1 ≤ _; have := r.1; omega, by show 8 + (nL + 11) + 40 * d ≤ _; have := r.2.2.2; omega⟩, C.wd k2, C.wd k3⟩
    ⟨fb_S, by have := va_recv C.2.2.2.2.2.1.1 hPc hc he; rw [hq] at this; exact this, fun U hU hW => ⟨rfl, by rw [hU], by rw [hU]; exact hPc, C.2.2.2.2.2.1.moved hW, hDc⟩⟩ rfl hn hl.1 rfl (lv_room hst) dd ⟨Nat.le_trans h1 r.2.1, Nat.le_trans h2 r.2.2.1⟩
theorem g_callS (C : Cx E g cc own ret) (r : RF g D mcT msT) (mv : MS own index y yc nL ry n) (dd : decode cc pc = .ok (.invokestatic index, 3)) (hM : Ctr g.l E y yc nL ry d mc ms As wc post) (sp : Spl ws wr wc) (hn : As.length = n) (hst : (rest.map fun v => v.category).sum ≤ 8) (hd : d + 1 ≤ D) (h1 : cells + mc ≤ mcT) (h2 : slots + ms ≤ msT)
    (kk : ∀ (v : Option Value) (w' : va_W), post v w' → G E g (wr ++ w') (cells + mc) (slots + ms) (pc + 3) lv (v.toList ++ rest)) : G E g ws cells slots pc lv (As.reverse ++ rest) := by
  obtain ⟨k1, k2, k4, k5, k6, k7⟩ := mv
  refine g_run C (a := As.toArray) sp (fun H locs ls hl hPc hDc => ?_) kk
  refine va_runS (Ts := GW) (own := own) (As := As) (bytes := yc) (maxL := nL) (ret := ry) (n := n) ⟨C.1, C.2.1, C.2.2.1, C.2.2.2.1, C.2.2.2.2.1⟩ (hM H.size) ⟨callB_of n C.2.2.2.2.1 (gi_c k5) rfl rfl rfl (C.wd k4) (C.wd k1) k6 ⟨by show d + 1 ≤ _; have := r.1; omega, by show 8 + (nL + 11) + 40 * d ≤ _; have := r.2.2.2; omega⟩, C.wd k2⟩
    ⟨fb_S, fun U hU hW => ⟨rfl, by rw [hU], by rw [hU]; exact hPc, C.2.2.2.2.2.1.moved hW, hDc⟩⟩ rfl hn hl.1 rfl (lv_room hst) dd ⟨Nat.le_trans h1 r.2.1, Nat.le_trans h2 r.2.2.1⟩
theorem g_callN (C : Cx E g cc own ret) (r : RF g D mcT msT) {host : String} (mv : MN own host index y yc nL ry n) (dd : decode cc pc = .ok (.invokestatic index, 3)) (hM : Ctr g.l E y yc nL ry d mc ms As wc post) (sp : Spl ws wr wc) (hn : As.length = n) (hst : (rest.map fun v => v.category).sum ≤ 8) (hd : d + 1 ≤ D) (h1 : cells + mc ≤ mcT) (h2 : slots + ms ≤ msT)
    (kk : ∀ (v : Option Value) (w' : va_W), post v w' → G E g (wr ++ w') (cells + mc) (slots + ms) (pc + 3) lv (v.toList ++ rest)) : G E g ws cells slots pc lv (As.reverse ++ rest) := by
  obtain ⟨k1, k2, k4, k5, k6, k7⟩ := mv
  refine g_run C (a := As.toArray) sp (fun H locs ls hl hPc hDc => ?_) kk
  refine va_runSN (Ts := GW) (own := own) (As := As) (bytes := yc) (maxL := nL) (ret := ry) (n := n) (host := host) ⟨C.1, C.2.1, C.2.2.1, C.2.2.2.1, C.2.2.2.2.1⟩ (hM H.size) ⟨va_cnB n C.2.2.2.2.1 (gi_c k5) rfl rfl rfl (k1 _ C.2.2.2.2.2.1.2) (C.wd k4) k6 ⟨by show d + 1 ≤ _; have := r.1; omega, by show 8 + (nL + 11) + 40 * d ≤ _; have := r.2.2.2; omega⟩, C.wd k2, trivial⟩
    ⟨fb_S, fun U hU hW => ⟨rfl, by rw [hU], by rw [hU]; exact hPc, C.2.2.2.2.2.1.moved hW, hDc⟩⟩ rfl hn hl.1 rfl (lv_room hst) dd ⟨Nat.le_trans h1 r.2.1, Nat.le_trans h2 r.2.2.1⟩
theorem g_callI (C : Cx E g cc own ret) (r : RF g D mcT msT) (mv : MI own index y yc nL n) (dd : decode cc pc = .ok (.invokespecial index, 3)) (hM : Ctr g.l E y yc nL none d mc ms (.ref b :: As) wc post) (sp : Spl ws wr wc) (hn : As.length = n) (hst : (rest.map fun v => v.category).sum ≤ 8) (hd : d + 1 ≤ D) (h1 : cells + mc ≤ mcT) (h2 : slots + ms ≤ msT)
    (kk : ∀ (v : Option Value) (w' : va_W), post v w' → G E g (wr ++ w') (cells + mc) (slots + ms) (pc + 3) lv (v.toList ++ rest)) : G E g ws cells slots pc lv (As.reverse ++ .ref b :: rest) := by
  obtain ⟨k1, k2, k4, k5, k6, k7, k8⟩ := mv
  refine g_run C (a := (Value.ref b :: As).toArray) sp (fun H locs ls hl hPc hDc => ?_) kk
  refine va_runI (Ts := GW) (own := own) (As := As) (bytes := yc) (maxL := nL) (n := n) ⟨C.1, C.2.1, C.2.2.1, C.2.2.2.1, C.2.2.2.2.1⟩ (hM H.size) ⟨callB_of n C.2.2.2.2.1 (gi_c k5) rfl rfl rfl (C.wd k4) (C.wd k1) k6 ⟨by show d + 1 ≤ _; have := r.1; omega, by show 8 + (nL + 11) + 40 * d ≤ _; have := r.2.2.2; omega⟩, k8, C.wd k2⟩
    ⟨fb_S, fun U hU hW => ⟨rfl, by rw [hU], by rw [hU]; exact hPc, C.2.2.2.2.2.1.moved hW, hDc⟩⟩ rfl hn hl.1 rfl (lv_room hst) dd ⟨Nat.le_trans h1 r.2.1, Nat.le_trans h2 r.2.2.1⟩
end GC
end
section
theorem mi_L_19 : MI RL 19 yX3_init cX3_init 2 0 := ⟨kw1_17, kw1_18, kw1_1, kw1_19, by decide +kernel, by decide, rfl⟩
theorem mi_X3_9 : MI RX3 9 yX1_init cX1_init 1 0 := ⟨kw1_25, kw1_26, kw1_2, kw1_27, by decide +kernel, by decide, rfl⟩
theorem gf_X1_9 {E : GE} {g : Cf} {cc : ByteArray} {ret : Option FieldType} {ws : va_W} {cells slots pc : Nat} {lv : List (Nat × Value)} {st : List Value} {a : Nat} (C : Cx E g cc RX1 ret) (q0 : Nat) {fs : List Value} {v : Value} (he : ws[q0]? = some (a, .inr (3, fs))) (hv : fs[0]? = some v) (d : decode cc pc = .ok (.getfield 9, 3)) (kk : G E g ws cells slots (pc + 3) lv (v :: st)) : G E g ws cells slots pc lv (.ref a :: st) := g_get C inG_X1 rfl 0 (by decide) kw1_29 q0 he hv d kk
theorem gp_X1_9 {E : GE} {g : Cf} {cc : ByteArray} {ret : Option FieldType} {ws : va_W} {cells slots pc : Nat} {lv : List (Nat × Value)} {st : List Value} {a : Nat} (C : Cx E g cc RX1 ret) (hi : g.me.name = "<init>") (q0 : Nat) {fs : List Value} {v : Value} (he : ws[q0]? = some (a, .inr (3, fs))) (hl : 0 < fs.length) (hn : narrow (tyX1 0) v = v) (hfit : fits (tyX1 0) v = true) (d : decode cc pc = .ok (.putfield 9, 3)) (kk : G E g (ws.set q0 (a, .inr (3, fs.set 0 v))) cells slots (pc + 3) lv st) : G E g ws cells slots pc lv (v :: .ref a :: st) := g_putF C hi inG_X1 tyX1 tyX1_ok nmX1 rfl 0 (by decide) rfl rfl kw1_29 q0 he hl hn hfit d kk
theorem gf_X1_15 {E : GE} {g : Cf} {cc : ByteArray} {ret : Option FieldType} {ws : va_W} {cells slots pc : Nat} {lv : List (Nat × Value)} {st : List Value} {a : Nat} (C : Cx E g cc RX1 ret) (q0 : Nat) {fs : List Value} {v : Value} (he : ws[q0]? = some (a, .inr (3, fs))) (hv : fs[1]? = some v) (d : decode cc pc = .ok (.getfield 15, 3)) (kk : G E g ws cells slots (pc + 3) lv (v :: st)) : G E g ws cells slots pc lv (.ref a :: st) := g_get C inG_X1 rfl 1 (by decide) kw1_30 q0 he hv d kk
theorem gp_X1_15 {E : GE} {g : Cf} {cc : ByteArray} {ret : Option FieldType} {ws : va_W} {cells slots pc : Nat} {lv : List (Nat × Value)} {st : List Value} {a : Nat} (C : Cx E g cc RX1 ret) (q0 : Nat) {fs : List Value} {v : Value} (he : ws[q0]? = some (a, .inr (3, fs))) (hl : 1 < fs.length) (hn : narrow (tyX1 1) v = v) (hfit : fits (tyX1 1) v = true) (d : decode cc pc = .ok (.putfield 15, 3)) (kk : G E g (ws.set q0 (a, .inr (3, fs.set 1 v))) cells slots (pc + 3) lv st) : G E g ws cells slots pc lv (v :: .ref a :: st) := g_put C inG_X1 tyX1 tyX1_ok nmX1 rfl 1 (by decide) rfl kw1_30 q0 he hl hn hfit d kk
theorem gf_X1_19 {E : GE} {g : Cf} {cc : ByteArray} {ret : Option FieldType} {ws : va_W} {cells slots pc : Nat} {lv : List (Nat × Value)} {st : List Value} {a : Nat} (C : Cx E g cc RX1 ret) (q0 : Nat) {fs : List Value} {v : Value} (he : ws[q0]? = some (a, .inr (3, fs))) (hv : fs[2]? = some v) (d : decode cc pc = .ok (.getfield 19, 3)) (kk : G E g ws cells slots (pc + 3) lv (v :: st)) : G E g ws cells slots pc lv (.ref a :: st) := g_get C inG_X1 rfl 2 (by decide) kw1_31 q0 he hv d kk
theorem gp_X1_19 {E : GE} {g : Cf} {cc : ByteArray} {ret : Option FieldType} {ws : va_W} {cells slots pc : Nat} {lv : List (Nat × Value)} {st : List Value} {a : Nat} (C : Cx E g cc RX1 ret) (q0 : Nat) {fs : List Value} {v : Value} (he : ws[q0]? = some (a, .inr (3, fs))) (hl : 2 < fs.length) (hn : narrow (tyX1 2) v = v) (hfit : fits (tyX1 2) v = true) (d : decode cc pc = .ok (.putfield 19, 3)) (kk : G E g (ws.set q0 (a, .inr (3, fs.set 2 v))) cells slots (pc + 3) lv st) : G E g ws cells slots pc lv (v :: .ref a :: st) := g_put C inG_X1 tyX1 tyX1_ok nmX1 rfl 2 (by decide) rfl kw1_31 q0 he hl hn hfit d kk
theorem mi_X3_18 : MI RX3 18 yX2_init cX2_init 1 0 := ⟨kw1_42, kw1_43, kw1_3, kw1_44, by decide +kernel, by decide, rfl⟩
theorem gf_X2_9 {E : GE} {g : Cf} {cc : ByteArray} {ret : Option FieldType} {ws : va_W} {cells slots pc : Nat} {lv : List (Nat × Value)} {st : List Value} {a : Nat} (C : Cx E g cc RX2 ret) (q0 : Nat) {fs : List Value} {v : Value} (he : ws[q0]? = some (a, .inr (4, fs))) (hv : fs[0]? = some v) (d : decode cc pc = .ok (.getfield 9, 3)) (kk : G E g ws cells slots (pc + 3) lv (v :: st)) : G E g ws cells slots pc lv (.ref a :: st) := g_get C inG_X2 rfl 0 (by decide) kw1_46 q0 he hv d kk
theorem gp_X2_9 {E : GE} {g : Cf} {cc : ByteArray} {ret : Option FieldType} {ws : va_W} {cells slots pc : Nat} {lv : List (Nat × Value)} {st : List Value} {a : Nat} (C : Cx E g cc RX2 ret) (q0 : Nat) {fs : List Value} {v : Value} (he : ws[q0]? = some (a, .inr (4, fs))) (hl : 0 < fs.length) (hn : narrow (tyX2 0) v = v) (hfit : fits (tyX2 0) v = true) (d : decode cc pc = .ok (.putfield 9, 3)) (kk : G E g (ws.set q0 (a, .inr (4, fs.set 0 v))) cells slots (pc + 3) lv st) : G E g ws cells slots pc lv (v :: .ref a :: st) := g_put C inG_X2 tyX2 tyX2_ok nmX2 rfl 0 (by decide) rfl kw1_46 q0 he hl hn hfit d kk
theorem gf_X2_13 {E : GE} {g : Cf} {cc : ByteArray} {ret : Option FieldType} {ws : va_W} {cells slots pc : Nat} {lv : List (Nat × Value)} {st : List Value} {a : Nat} (C : Cx E g cc RX2 ret) (q0 : Nat) {fs : List Value} {v : Value} (he : ws[q0]? = some (a, .inr (4, fs))) (hv : fs[1]? = some v) (d : decode cc pc = .ok (.getfield 13, 3)) (kk : G E g ws cells slots (pc + 3) lv (v :: st)) : G E g ws cells slots pc lv (.ref a :: st) := g_get C inG_X2 rfl 1 (by decide) kw1_47 q0 he hv d kk
theorem gp_X2_13 {E : GE} {g : Cf} {cc : ByteArray} {ret : Option FieldType} {ws : va_W} {cells slots pc : Nat} {lv : List (Nat × Value)} {st : List Value} {a : Nat} (C : Cx E g cc RX2 ret) (q0 : Nat) {fs : List Value} {v : Value} (he : ws[q0]? = some (a, .inr (4, fs))) (hl : 1 < fs.length) (hn : narrow (tyX2 1) v = v) (hfit : fits (tyX2 1) v = true) (d : decode cc pc = .ok (.putfield 13, 3)) (kk : G E g (ws.set q0 (a, .inr (4, fs.set 1 v))) cells slots (pc + 3) lv st) : G E g ws cells slots pc lv (v :: .ref a :: st) := g_put C inG_X2 tyX2 tyX2_ok nmX2 rfl 1 (by decide) rfl kw1_47 q0 he hl hn hfit d kk
theorem mi_X3_33 : MI RX3 33 yX0_init cX0_init 1 0 := ⟨kw1_56, kw1_57, kw1_4, kw1_58, by decide +kernel, by decide, rfl⟩
theorem gf_X0_15 {E : GE} {g : Cf} {cc : ByteArray} {ret : Option FieldType} {ws : va_W} {cells slots pc : Nat} {lv : List (Nat × Value)} {st : List Value} {a : Nat} (C : Cx E g cc RX0 ret) (q0 : Nat) {fs : List Value} {v : Value} (he : ws[q0]? = some (a, .inr (2, fs))) (hv : fs[0]? = some v) (d : decode cc pc = .ok (.getfield 15, 3)) (kk : G E g ws cells slots (pc + 3) lv (v :: st)) : G E g ws cells slots pc lv (.ref a :: st) := g_get C inG_X0 rfl 0 (by decide) kw1_60 q0 he hv d kk
theorem gp_X0_15 {E : GE} {g : Cf} {cc : ByteArray} {ret : Option FieldType} {ws : va_W} {cells slots pc : Nat} {lv : List (Nat × Value)} {st : List Value} {a : Nat} (C : Cx E g cc RX0 ret) (q0 : Nat) {fs : List Value} {v : Value} (he : ws[q0]? = some (a, .inr (2, fs))) (hl : 0 < fs.length) (hn : narrow (tyX0 0) v = v) (hfit : fits (tyX0 0) v = true) (d : decode cc pc = .ok (.putfield 15, 3)) (kk : G E g (ws.set q0 (a, .inr (2, fs.set 0 v))) cells slots (pc + 3) lv st) : G E g ws cells slots pc lv (v :: .ref a :: st) := g_put C inG_X0 tyX0 tyX0_ok nmX0 rfl 0 (by decide) rfl kw1_60 q0 he hl hn hfit d kk
theorem gf_X3_78 {E : GE} {g : Cf} {cc : ByteArray} {ret : Option FieldType} {ws : va_W} {cells slots pc : Nat} {lv : List (Nat × Value)} {st : List Value} {a : Nat} (C : Cx E g cc RX3 ret) (q0 : Nat) {fs : List Value} {v : Value} (he : ws[q0]? = some (a, .inr (2, fs))) (hv : fs[0]? = some v) (d : decode cc pc = .ok (.getfield 78, 3)) (kk : G E g ws cells slots (pc + 3) lv (v :: st)) : G E g ws cells slots pc lv (.ref a :: st) := g_getN C inG_X0 rfl 0 (by decide) C.2.2.2.2.2.1.2.1 q0 he hv d kk
theorem gf_X0_19 {E : GE} {g : Cf} {cc : ByteArray} {ret : Option FieldType} {ws : va_W} {cells slots pc : Nat} {lv : List (Nat × Value)} {st : List Value} {a : Nat} (C : Cx E g cc RX0 ret) (q0 : Nat) {fs : List Value} {v : Value} (he : ws[q0]? = some (a, .inr (2, fs))) (hv : fs[1]? = some v) (d : decode cc pc = .ok (.getfield 19, 3)) (kk : G E g ws cells slots (pc + 3) lv (v :: st)) : G E g ws cells slots pc lv (.ref a :: st) := g_get C inG_X0 rfl 1 (by decide) kw1_62 q0 he hv d kk
theorem gp_X0_19 {E : GE} {g : Cf} {cc : ByteArray} {ret : Option FieldType} {ws : va_W} {cells slots pc : Nat} {lv : List (Nat × Value)} {st : List Value} {a : Nat} (C : Cx E g cc RX0 ret) (q0 : Nat) {fs : List Value} {v : Value} (he : ws[q0]? = some (a, .inr (2, fs))) (hl : 1 < fs.length) (hn : narrow (tyX0 1) v = v) (hfit : fits (tyX0 1) v = true) (d : decode cc pc = .ok (.putfield 19, 3)) (kk : G E g (ws.set q0 (a, .inr (2, fs.set 1 v))) cells slots (pc + 3) lv st) : G E g ws cells slots pc lv (v :: .ref a :: st) := g_put C inG_X0 tyX0 tyX0_ok nmX0 rfl 1 (by decide) rfl kw1_62 q0 he hl hn hfit d kk
theorem gf_X3_89 {E : GE} {g : Cf} {cc : ByteArray} {ret : Option FieldType} {ws : va_W} {cells slots pc : Nat} {lv : List (Nat × Value)} {st : List Value} {a : Nat} (C : Cx E g cc RX3 ret) (q0 : Nat) {fs : List Value} {v : Value} (he : ws[q0]? = some (a, .inr (2, fs))) (hv : fs[1]? = some v) (d : decode cc pc = .ok (.getfield 89, 3)) (kk : G E g ws cells slots (pc + 3) lv (v :: st)) : G E g ws cells slots pc lv (.ref a :: st) := g_getN C inG_X0 rfl 1 (by decide) C.2.2.2.2.2.1.2.2.1 q0 he hv d kk
theorem gf_X0_22 {E : GE} {g : Cf} {cc : ByteArray} {ret : Option FieldType} {ws : va_W} {cells slots pc : Nat} {lv : List (Nat × Value)} {st : List Value} {a : Nat} (C : Cx E g cc RX0 ret) (q0 : Nat) {fs : List Value} {v : Value} (he : ws[q0]? = some (a, .inr (2, fs))) (hv : fs[2]? = some v) (d : decode cc pc = .ok (.getfield 22, 3)) (kk : G E g ws cells slots (pc + 3) lv (v :: st)) : G E g ws cells slots pc lv (.ref a :: st) := g_get C inG_X0 rfl 2 (by decide) kw1_64 q0 he hv d kk
theorem gp_X0_22 {E : GE} {g : Cf} {cc : ByteArray} {ret : Option FieldType} {ws : va_W} {cells slots pc : Nat} {lv : List (Nat × Value)} {st : List Value} {a : Nat} (C : Cx E g cc RX0 ret) (q0 : Nat) {fs : List Value} {v : Value} (he : ws[q0]? = some (a, .inr (2, fs))) (hl : 2 < fs.length) (hn : narrow (tyX0 2) v = v) (hfit : fits (tyX0 2) v = true) (d : decode cc pc = .ok (.putfield 22, 3)) (kk : G E g (ws.set q0 (a, .inr (2, fs.set 2 v))) cells slots (pc + 3) lv st) : G E g ws cells slots pc lv (v :: .ref a :: st) := g_put C inG_X0 tyX0 tyX0_ok nmX0 rfl 2 (by decide) rfl kw1_64 q0 he hl hn hfit d kk
theorem gf_X3_92 {E : GE} {g : Cf} {cc : ByteArray} {ret : Option FieldType} {ws : va_W} {cells slots pc : Nat} {lv : List (Nat × Value)} {st : List Value} {a : Nat} (C : Cx E g cc RX3 ret) (q0 : Nat) {fs : List Value} {v : Value} (he : ws[q0]? = some (a, .inr (2, fs))) (hv : fs[2]? = some v) (d : decode cc pc = .ok (.getfield 92, 3)) (kk : G E g ws cells slots (pc + 3) lv (v :: st)) : G E g ws cells slots pc lv (.ref a :: st) := g_getN C inG_X0 rfl 2 (by decide) C.2.2.2.2.2.1.2.2.2.1 q0 he hv d kk
theorem gf_X0_11 {E : GE} {g : Cf} {cc : ByteArray} {ret : Option FieldType} {ws : va_W} {cells slots pc : Nat} {lv : List (Nat × Value)} {st : List Value} {a : Nat} (C : Cx E g cc RX0 ret) (q0 : Nat) {fs : List Value} {v : Value} (he : ws[q0]? = some (a, .inr (2, fs))) (hv : fs[3]? = some v) (d : decode cc pc = .ok (.getfield 11, 3)) (kk : G E g ws cells slots (pc + 3) lv (v :: st)) : G E g ws cells slots pc lv (.ref a :: st) := g_get C inG_X0 rfl 3 (by decide) kw1_66 q0 he hv d kk
theorem gp_X0_11 {E : GE} {g : Cf} {cc : ByteArray} {ret : Option FieldType} {ws : va_W} {cells slots pc : Nat} {lv : List (Nat × Value)} {st : List Value} {a : Nat} (C : Cx E g cc RX0 ret) (q0 : Nat) {fs : List Value} {v : Value} (he : ws[q0]? = some (a, .inr (2, fs))) (hl : 3 < fs.length) (hn : narrow (tyX0 3) v = v) (hfit : fits (tyX0 3) v = true) (d : decode cc pc = .ok (.putfield 11, 3)) (kk : G E g (ws.set q0 (a, .inr (2, fs.set 3 v))) cells slots (pc + 3) lv st) : G E g ws cells slots pc lv (v :: .ref a :: st) := g_put C inG_X0 tyX0 tyX0_ok nmX0 rfl 3 (by decide) rfl kw1_66 q0 he hl hn hfit d kk
theorem gf_X0_25 {E : GE} {g : Cf} {cc : ByteArray} {ret : Option FieldType} {ws : va_W} {cells slots pc : Nat} {lv : List (Nat × Value)} {st : List Value} {a : Nat} (C : Cx E g cc RX0 ret) (q0 : Nat) {fs : List Value} {v : Value} (he : ws[q0]? = some (a, .inr (2, fs))) (hv : fs[4]? = some v) (d : decode cc pc = .ok (.getfield 25, 3)) (kk : G E g ws cells slots (pc + 3) lv (v :: st)) : G E g ws cells slots pc lv (.ref a :: st) := g_get C inG_X0 rfl 4 (by decide) kw1_67 q0 he hv d kk
theorem gp_X0_25 {E : GE} {g : Cf} {cc : ByteArray} {ret : Option FieldType} {ws : va_W} {cells slots pc : Nat} {lv : List (Nat × Value)} {st : List Value} {a : Nat} (C : Cx E g cc RX0 ret) (q0 : Nat) {fs : List Value} {v : Value} (he : ws[q0]? = some (a, .inr (2, fs))) (hl : 4 < fs.length) (hn : narrow (tyX0 4) v = v) (hfit : fits (tyX0 4) v = true) (d : decode cc pc = .ok (.putfield 25, 3)) (kk : G E g (ws.set q0 (a, .inr (2, fs.set 4 v))) cells slots (pc + 3) lv st) : G E g ws cells slots pc lv (v :: .ref a :: st) := g_put C inG_X0 tyX0 tyX0_ok nmX0 rfl 4 (by decide) rfl kw1_67 q0 he hl hn hfit d kk
theorem gf_X3_189 {E : GE} {g : Cf} {cc : ByteArray} {ret : Option FieldType} {ws : va_W} {cells slots pc : Nat} {lv : List (Nat × Value)} {st : List Value} {a : Nat} (C : Cx E g cc RX3 ret) (q0 : Nat) {fs : List Value} {v : Value} (he : ws[q0]? = some (a, .inr (2, fs))) (hv : fs[4]? = some v) (d : decode cc pc = .ok (.getfield 189, 3)) (kk : G E g ws cells slots (pc + 3) lv (v :: st)) : G E g ws cells slots pc lv (.ref a :: st) := g_getN C inG_X0 rfl 4 (by decide) C.2.2.2.2.2.1.2.2.2.2.1 q0 he hv d kk
theorem gf_X0_28 {E : GE} {g : Cf} {cc : ByteArray} {ret : Option FieldType} {ws : va_W} {cells slots pc : Nat} {lv : List (Nat × Value)} {st : List Value} {a : Nat} (C : Cx E g cc RX0 ret) (q0 : Nat) {fs : List Value} {v : Value} (he : ws[q0]? = some (a, .inr (2, fs))) (hv : fs[5]? = some v) (d : decode cc pc = .ok (.getfield 28, 3)) (kk : G E g ws cells slots (pc + 3) lv (v :: st)) : G E g ws cells slots pc lv (.ref a :: st) := g_get C inG_X0 rfl 5 (by decide) kw1_69 q0 he hv d kk
theorem gp_X0_28 {E : GE} {g : Cf} {cc : ByteArray} {ret : Option FieldType} {ws : va_W} {cells slots pc : Nat} {lv : List (Nat × Value)} {st : List Value} {a : Nat} (C : Cx E g cc RX0 ret) (q0 : Nat) {fs : List Value} {v : Value} (he : ws[q0]? = some (a, .inr (2, fs))) (hl : 5 < fs.length) (hn : narrow (tyX0 5) v = v) (hfit : fits (tyX0 5) v = true) (d : decode cc pc = .ok (.putfield 28, 3)) (kk : G E g (ws.set q0 (a, .inr (2, fs.set 5 v))) cells slots (pc + 3) lv st) : G E g ws cells slots pc lv (v :: .ref a :: st) := g_put C inG_X0 tyX0 tyX0_ok nmX0 rfl 5 (by decide) rfl kw1_69 q0 he hl hn hfit d kk
theorem gf_X3_10 {E : GE} {g : Cf} {cc : ByteArray} {ret : Option FieldType} {ws : va_W} {cells slots pc : Nat} {lv : List (Nat × Value)} {st : List Value} {a : Nat} (C : Cx E g cc RX3 ret) (q0 : Nat) {fs : List Value} {v : Value} (he : ws[q0]? = some (a, .inr (5, fs))) (hv : fs[0]? = some v) (d : decode cc pc = .ok (.getfield 10, 3)) (kk : G E g ws cells slots (pc + 3) lv (v :: st)) : G E g ws cells slots pc lv (.ref a :: st) := g_get C inG_X3 rfl 0 (by decide) kw1_83 q0 he hv d kk
theorem gp_X3_10 {E : GE} {g : Cf} {cc : ByteArray} {ret : Option FieldType} {ws : va_W} {cells slots pc : Nat} {lv : List (Nat × Value)} {st : List Value} {a : Nat} (C : Cx E g cc RX3 ret) (hi : g.me.name = "<init>") (q0 : Nat) {fs : List Value} {v : Value} (he : ws[q0]? = some (a, .inr (5, fs))) (hl : 0 < fs.length) (hn : narrow (tyX3 0) v = v) (hfit : fits (tyX3 0) v = true) (d : decode cc pc = .ok (.putfield 10, 3)) (kk : G E g (ws.set q0 (a, .inr (5, fs.set 0 v))) cells slots (pc + 3) lv st) : G E g ws cells slots pc lv (v :: .ref a :: st) := g_putF C hi inG_X3 tyX3 tyX3_ok nmX3 rfl 0 (by decide) rfl rfl kw1_83 q0 he hl hn hfit d kk
theorem gf_X3_19 {E : GE} {g : Cf} {cc : ByteArray} {ret : Option FieldType} {ws : va_W} {cells slots pc : Nat} {lv : List (Nat × Value)} {st : List Value} {a : Nat} (C : Cx E g cc RX3 ret) (q0 : Nat) {fs : List Value} {v : Value} (he : ws[q0]? = some (a, .inr (5, fs))) (hv : fs[1]? = some v) (d : decode cc pc = .ok (.getfield 19, 3)) (kk : G E g ws cells slots (pc + 3) lv (v :: st)) : G E g ws cells slots pc lv (.ref a :: st) := g_get C inG_X3 rfl 1 (by decide) kw1_84 q0 he hv d kk
theorem gp_X3_19 {E : GE} {g : Cf} {cc : ByteArray} {ret : Option FieldType} {ws : va_W} {cells slots pc : Nat} {lv : List (Nat × Value)} {st : List Value} {a : Nat} (C : Cx E g cc RX3 ret) (hi : g.me.name = "<init>") (q0 : Nat) {fs : List Value} {v : Value} (he : ws[q0]? = some (a, .inr (5, fs))) (hl : 1 < fs.length) (hn : narrow (tyX3 1) v = v) (hfit : fits (tyX3 1) v = true) (d : decode cc pc = .ok (.putfield 19, 3)) (kk : G E g (ws.set q0 (a, .inr (5, fs.set 1 v))) cells slots (pc + 3) lv st) : G E g ws cells slots pc lv (v :: .ref a :: st) := g_putF C hi inG_X3 tyX3 tyX3_ok nmX3 rfl 1 (by decide) rfl rfl kw1_84 q0 he hl hn hfit d kk
theorem gf_X3_23 {E : GE} {g : Cf} {cc : ByteArray} {ret : Option FieldType} {ws : va_W} {cells slots pc : Nat} {lv : List (Nat × Value)} {st : List Value} {a : Nat} (C : Cx E g cc RX3 ret) (q0 : Nat) {fs : List Value} {v : Value} (he : ws[q0]? = some (a, .inr (5, fs))) (hv : fs[2]? = some v) (d : decode cc pc = .ok (.getfield 23, 3)) (kk : G E g ws cells slots (pc + 3) lv (v :: st)) : G E g ws cells slots pc lv (.ref a :: st) := g_get C inG_X3 rfl 2 (by decide) kw1_85 q0 he hv d kk
theorem gp_X3_23 {E : GE} {g : Cf} {cc : ByteArray} {ret : Option FieldType} {ws : va_W} {cells slots pc : Nat} {lv : List (Nat × Value)} {st : List Value} {a : Nat} (C : Cx E g cc RX3 ret) (hi : g.me.name = "<init>") (q0 : Nat) {fs : List Value} {v : Value} (he : ws[q0]? = some (a, .inr (5, fs))) (hl : 2 < fs.length) (hn : narrow (tyX3 2) v = v) (hfit : fits (tyX3 2) v = true) (d : decode cc pc = .ok (.putfield 23, 3)) (kk : G E g (ws.set q0 (a, .inr (5, fs.set 2 v))) cells slots (pc + 3) lv st) : G E g ws cells slots pc lv (v :: .ref a :: st) := g_putF C hi inG_X3 tyX3 tyX3_ok nmX3 rfl 2 (by decide) rfl rfl kw1_85 q0 he hl hn hfit d kk
theorem gf_X3_29 {E : GE} {g : Cf} {cc : ByteArray} {ret : Option FieldType} {ws : va_W} {cells slots pc : Nat} {lv : List (Nat × Value)} {st : List Value} {a : Nat} (C : Cx E g cc RX3 ret) (q0 : Nat) {fs : List Value} {v : Value} (he : ws[q0]? = some (a, .inr (5, fs))) (hv : fs[3]? = some v) (d : decode cc pc = .ok (.getfield 29, 3)) (kk : G E g ws cells slots (pc + 3) lv (v :: st)) : G E g ws cells slots pc lv (.ref a :: st) := g_get C inG_X3 rfl 3 (by decide) kw1_86 q0 he hv d kk
theorem gp_X3_29 {E : GE} {g : Cf} {cc : ByteArray} {ret : Option FieldType} {ws : va_W} {cells slots pc : Nat} {lv : List (Nat × Value)} {st : List Value} {a : Nat} (C : Cx E g cc RX3 ret) (hi : g.me.name = "<init>") (q0 : Nat) {fs : List Value} {v : Value} (he : ws[q0]? = some (a, .inr (5, fs))) (hl : 3 < fs.length) (hn : narrow (tyX3 3) v = v) (hfit : fits (tyX3 3) v = true) (d : decode cc pc = .ok (.putfield 29, 3)) (kk : G E g (ws.set q0 (a, .inr (5, fs.set 3 v))) cells slots (pc + 3) lv st) : G E g ws cells slots pc lv (v :: .ref a :: st) := g_putF C hi inG_X3 tyX3 tyX3_ok nmX3 rfl 3 (by decide) rfl rfl kw1_86 q0 he hl hn hfit d kk
theorem gf_X3_34 {E : GE} {g : Cf} {cc : ByteArray} {ret : Option FieldType} {ws : va_W} {cells slots pc : Nat} {lv : List (Nat × Value)} {st : List Value} {a : Nat} (C : Cx E g cc RX3 ret) (q0 : Nat) {fs : List Value} {v : Value} (he : ws[q0]? = some (a, .inr (5, fs))) (hv : fs[4]? = some v) (d : decode cc pc = .ok (.getfield 34, 3)) (kk : G E g ws cells slots (pc + 3) lv (v :: st)) : G E g ws cells slots pc lv (.ref a :: st) := g_get C inG_X3 rfl 4 (by decide) kw1_87 q0 he hv d kk
theorem gp_X3_34 {E : GE} {g : Cf} {cc : ByteArray} {ret : Option FieldType} {ws : va_W} {cells slots pc : Nat} {lv : List (Nat × Value)} {st : List Value} {a : Nat} (C : Cx E g cc RX3 ret) (hi : g.me.name = "<init>") (q0 : Nat) {fs : List Value} {v : Value} (he : ws[q0]? = some (a, .inr (5, fs))) (hl : 4 < fs.length) (hn : narrow (tyX3 4) v = v) (hfit : fits (tyX3 4) v = true) (d : decode cc pc = .ok (.putfield 34, 3)) (kk : G E g (ws.set q0 (a, .inr (5, fs.set 4 v))) cells slots (pc + 3) lv st) : G E g ws cells slots pc lv (v :: .ref a :: st) := g_putF C hi inG_X3 tyX3 tyX3_ok nmX3 rfl 4 (by decide) rfl rfl kw1_87 q0 he hl hn hfit d kk
theorem gf_X3_38 {E : GE} {g : Cf} {cc : ByteArray} {ret : Option FieldType} {ws : va_W} {cells slots pc : Nat} {lv : List (Nat × Value)} {st : List Value} {a : Nat} (C : Cx E g cc RX3 ret) (q0 : Nat) {fs : List Value} {v : Value} (he : ws[q0]? = some (a, .inr (5, fs))) (hv : fs[5]? = some v) (d : decode cc pc = .ok (.getfield 38, 3)) (kk : G E g ws cells slots (pc + 3) lv (v :: st)) : G E g ws cells slots pc lv (.ref a :: st) := g_get C inG_X3 rfl 5 (by decide) kw1_88 q0 he hv d kk
theorem gp_X3_38 {E : GE} {g : Cf} {cc : ByteArray} {ret : Option FieldType} {ws : va_W} {cells slots pc : Nat} {lv : List (Nat × Value)} {st : List Value} {a : Nat} (C : Cx E g cc RX3 ret) (q0 : Nat) {fs : List Value} {v : Value} (he : ws[q0]? = some (a, .inr (5, fs))) (hl : 5 < fs.length) (hn : narrow (tyX3 5) v = v) (hfit : fits (tyX3 5) v = true) (d : decode cc pc = .ok (.putfield 38, 3)) (kk : G E g (ws.set q0 (a, .inr (5, fs.set 5 v))) cells slots (pc + 3) lv st) : G E g ws cells slots pc lv (v :: .ref a :: st) := g_put C inG_X3 tyX3 tyX3_ok nmX3 rfl 5 (by decide) rfl kw1_88 q0 he hl hn hfit d kk
theorem gf_X3_42 {E : GE} {g : Cf} {cc : ByteArray} {ret : Option FieldType} {ws : va_W} {cells slots pc : Nat} {lv : List (Nat × Value)} {st : List Value} {a : Nat} (C : Cx E g cc RX3 ret) (q0 : Nat) {fs : List Value} {v : Value} (he : ws[q0]? = some (a, .inr (5, fs))) (hv : fs[6]? = some v) (d : decode cc pc = .ok (.getfield 42, 3)) (kk : G E g ws cells slots (pc + 3) lv (v :: st)) : G E g ws cells slots pc lv (.ref a :: st) := g_get C inG_X3 rfl 6 (by decide) kw1_89 q0 he hv d kk
theorem gp_X3_42 {E : GE} {g : Cf} {cc : ByteArray} {ret : Option FieldType} {ws : va_W} {cells slots pc : Nat} {lv : List (Nat × Value)} {st : List Value} {a : Nat} (C : Cx E g cc RX3 ret) (q0 : Nat) {fs : List Value} {v : Value} (he : ws[q0]? = some (a, .inr (5, fs))) (hl : 6 < fs.length) (hn : narrow (tyX3 6) v = v) (hfit : fits (tyX3 6) v = true) (d : decode cc pc = .ok (.putfield 42, 3)) (kk : G E g (ws.set q0 (a, .inr (5, fs.set 6 v))) cells slots (pc + 3) lv st) : G E g ws cells slots pc lv (v :: .ref a :: st) := g_put C inG_X3 tyX3 tyX3_ok nmX3 rfl 6 (by decide) rfl kw1_89 q0 he hl hn hfit d kk
theorem gf_X3_46 {E : GE} {g : Cf} {cc : ByteArray} {ret : Option FieldType} {ws : va_W} {cells slots pc : Nat} {lv : List (Nat × Value)} {st : List Value} {a : Nat} (C : Cx E g cc RX3 ret) (q0 : Nat) {fs : List Value} {v : Value} (he : ws[q0]? = some (a, .inr (5, fs))) (hv : fs[7]? = some v) (d : decode cc pc = .ok (.getfield 46, 3)) (kk : G E g ws cells slots (pc + 3) lv (v :: st)) : G E g ws cells slots pc lv (.ref a :: st) := g_get C inG_X3 rfl 7 (by decide) kw1_90 q0 he hv d kk
theorem gp_X3_46 {E : GE} {g : Cf} {cc : ByteArray} {ret : Option FieldType} {ws : va_W} {cells slots pc : Nat} {lv : List (Nat × Value)} {st : List Value} {a : Nat} (C : Cx E g cc RX3 ret) (q0 : Nat) {fs : List Value} {v : Value} (he : ws[q0]? = some (a, .inr (5, fs))) (hl : 7 < fs.length) (hn : narrow (tyX3 7) v = v) (hfit : fits (tyX3 7) v = true) (d : decode cc pc = .ok (.putfield 46, 3)) (kk : G E g (ws.set q0 (a, .inr (5, fs.set 7 v))) cells slots (pc + 3) lv st) : G E g ws cells slots pc lv (v :: .ref a :: st) := g_put C inG_X3 tyX3 tyX3_ok nmX3 rfl 7 (by decide) rfl kw1_90 q0 he hl hn hfit d kk
theorem mv_L_23 : MV RL 23 yX3_add cX3_add 2 none 1 := ⟨kw1_109, kw1_110, kw1_111, kw1_1, kw1_112, by decide +kernel, by decide⟩
theorem mv_X3_49 : MV RX3 49 yX1_append cX1_append 2 none 1 := ⟨kw1_113, kw1_114, kw1_115, kw1_2, kw1_116, by decide +kernel, by decide⟩
theorem mv_L_28 : MV RL 28 yX3_read cX3_read 3 (some .int) 0 := ⟨kw1_117, kw1_118, kw1_119, kw1_1, kw1_120, by decide +kernel, by decide⟩
theorem mv_X3_53 : MV RX3 53 yX1_left cX1_left 1 (some .int) 0 := ⟨kw1_121, kw1_122, kw1_123, kw1_2, kw1_124, by decide +kernel, by decide⟩
theorem mv_X3_57 : MV RX3 57 yX1_wrongInTotal cX1_wrongInTotal 2 (some .int) 0 := ⟨kw1_125, kw1_126, kw1_127, kw1_2, kw1_128, by decide +kernel, by decide⟩
theorem mv_X1_26 : MV RX1 26 yX1_wrongDigit cX1_wrongDigit 4 (some .int) 2 := ⟨kw1_129, kw1_131, ks1_0, kw1_2, kw1_132, by decide +kernel, by decide⟩
theorem mv_X1_22 : MV RX1 22 yX1_at cX1_at 2 (some .int) 1 := ⟨kw1_133, kw1_134, kw1_135, kw1_2, kw1_136, by decide +kernel, by decide⟩
theorem mn_X1_62 : MN RX1 "ExchangeRecords" 62 yX3_isDigit cX3_isDigit 1 (some .boolean) 1 := ⟨fun _ h => h.2.2.2.2.1, kw1_138, kw1_1, kw1_139, by decide +kernel, by decide⟩
theorem mv_X1_30 : MV RX1 30 yX1_number cX1_number 5 (some .int) 2 := ⟨kw1_140, kw1_141, kw1_142, kw1_2, kw1_143, by decide +kernel, by decide⟩
theorem mv_X3_60 : MV RX3 60 yX3_refuse cX3_refuse 3 (some .int) 2 := ⟨kw1_144, kw1_146, ks1_1, kw1_1, kw1_147, by decide +kernel, by decide⟩
theorem mv_X3_74 : MV RX3 74 yX1_skip cX1_skip 2 none 1 := ⟨kw1_148, kw1_149, kw1_150, kw1_2, kw1_151, by decide +kernel, by decide⟩
theorem mv_X3_64 : MV RX3 64 yX1_number cX1_number 5 (some .int) 2 := ⟨kw1_152, kw1_141, kw1_142, kw1_2, kw1_143, by decide +kernel, by decide⟩
theorem mv_X3_67 : MV RX3 67 yX1_wrongInRecord cX1_wrongInRecord 6 (some .int) 1 := ⟨kw1_153, kw1_154, kw1_155, kw1_2, kw1_156, by decide +kernel, by decide⟩
theorem mv_X1_33 : MV RX1 33 yX1_wrongInLeader cX1_wrongInLeader 5 (some .int) 1 := ⟨kw1_157, kw1_159, ks1_2, kw1_2, kw1_160, by decide +kernel, by decide⟩
theorem mn_X1_40 : MN RX1 "ExchangeRecords" 40 yX3_fixedByte cX3_fixedByte 1 (some .int) 1 := ⟨fun _ h => h.2.2.2.2.2.1, kw1_162, kw1_1, kw1_163, by decide +kernel, by decide⟩
theorem mv_X1_36 : MV RX1 36 yX1_wrongInRow cX1_wrongInRow 10 (some .int) 3 := ⟨kw1_164, kw1_166, ks1_3, kw1_2, kw1_167, by decide +kernel, by decide⟩
theorem mn_X1_43 : MN RX1 "ExchangeRecords" 43 yX3_isControl cX3_isControl 1 (some .boolean) 1 := ⟨fun _ h => h.2.2.2.2.2.2.1, kw1_169, kw1_1, kw1_170, by decide +kernel, by decide⟩
theorem mv_X1_47 : MV RX1 47 yX1_wrongInControlField cX1_wrongInControlField 4 (some .int) 2 := ⟨kw1_171, kw1_173, ks1_4, kw1_2, kw1_174, by decide +kernel, by decide⟩
theorem mv_X1_53 : MV RX1 53 yX1_firstMark cX1_firstMark 4 (some .int) 2 := ⟨kw1_175, kw1_177, ks1_5, kw1_2, kw1_178, by decide +kernel, by decide⟩
theorem mn_X1_59 : MN RX1 "ExchangeRecords" 59 yX3_isMark cX3_isMark 1 (some .boolean) 1 := ⟨fun _ h => h.2.2.2.2.2.2.2.1, kw1_180, kw1_1, kw1_181, by decide +kernel, by decide⟩
theorem mv_X1_56 : MV RX1 56 yX1_wrongEnd cX1_wrongEnd 2 (some .int) 1 := ⟨kw1_182, kw1_184, ks1_6, kw1_2, kw1_185, by decide +kernel, by decide⟩
theorem mv_X1_50 : MV RX1 50 yX1_wrongInOtherField cX1_wrongInOtherField 7 (some .int) 2 := ⟨kw1_186, kw1_188, ks1_7, kw1_2, kw1_189, by decide +kernel, by decide⟩
theorem mv_X3_71 : MV RX3 71 yX3_takeRecord cX3_takeRecord 3 none 0 := ⟨kw1_190, kw1_192, ks1_8, kw1_1, kw1_193, by decide +kernel, by decide⟩
theorem mv_X3_169 : MV RX3 169 yX1_at cX1_at 2 (some .int) 1 := ⟨kw1_194, kw1_134, kw1_135, kw1_2, kw1_136, by decide +kernel, by decide⟩
theorem ms_X3_170 : MS RX3 170 yJ9_min_7cf53 cJ9_min_7cf53 2 (some .int) 2 := ⟨kw1_195, kw1_196, kw1_6, kw1_197, by decide +kernel, by decide⟩
theorem mv_X3_175 : MV RX3 175 yX3_takeRow cX3_takeRow 7 none 2 := ⟨kw1_198, kw1_200, ks1_9, kw1_1, kw1_201, by decide +kernel, by decide⟩
theorem mv_X3_178 : MV RX3 178 yX3_takeField cX3_takeField 6 none 4 := ⟨kw1_202, kw1_204, ks1_10, kw1_1, kw1_205, by decide +kernel, by decide⟩
theorem ms_X3_85 : MS RX3 85 yX3_isControl cX3_isControl 1 (some .boolean) 1 := ⟨kw1_206, kw1_169, kw1_1, kw1_170, by decide +kernel, by decide⟩
theorem mv_X3_120 : MV RX3 120 yX0_begin cX0_begin 4 none 3 := ⟨kw1_207, kw1_208, kw1_209, kw1_4, kw1_210, by decide +kernel, by decide⟩
theorem mv_X3_133 : MV RX3 133 yX0_append cX0_append 2 none 1 := ⟨kw1_211, kw1_212, kw1_213, kw1_4, kw1_214, by decide +kernel, by decide⟩
theorem ms_X0_31 : MS RX0 31 yJ7_copyOf_9075b cJ7_copyOf_9075b 3 (some (.array .byte)) 2 := ⟨kw1_215, kw1_216, kw1_7, kw1_217, by decide +kernel, by decide⟩
theorem ms_J7_304 : MS RJ7 304 yJ9_min_7cf53 cJ9_min_7cf53 2 (some .int) 2 := ⟨kw1_225, kw1_196, kw1_6, kw1_197, by decide +kernel, by decide⟩
theorem mv_L_33 : MV RL 33 yX3_field cX3_field 5 (some .int) 2 := ⟨kw1_229, kw1_230, kw1_231, kw1_1, kw1_232, by decide +kernel, by decide⟩
theorem mv_L_37 : MV RL 37 yX3_indicator cX3_indicator 4 (some .int) 2 := ⟨kw1_233, kw1_234, kw1_235, kw1_1, kw1_236, by decide +kernel, by decide⟩
theorem mv_X3_81 : MV RX3 81 yX3_numbered cX3_numbered 2 (some (.object "ExchangeRecords$Field")) 1 := ⟨kw1_237, kw1_239, ks1_11, kw1_1, kw2_0, by decide +kernel, by decide⟩
theorem mv_L_41 : MV RL 41 yX3_subfield cX3_subfield 7 (some .int) 4 := ⟨kw2_1, kw2_2, kw2_3, kw1_1, kw2_4, by decide +kernel, by decide⟩
theorem mv_X3_95 : MV RX3 95 yX0_at cX0_at 2 (some .int) 1 := ⟨kw2_5, kw2_6, kw2_7, kw1_4, kw2_8, by decide +kernel, by decide⟩
theorem mv_X3_98 : MV RX3 98 yX0_subfieldStart cX0_subfieldStart 5 (some .int) 2 := ⟨kw2_9, kw2_10, kw2_11, kw1_4, kw2_12, by decide +kernel, by decide⟩
theorem mv_X0_45 : MV RX0 45 yX0_at cX0_at 2 (some .int) 1 := ⟨kw2_13, kw2_6, kw2_7, kw1_4, kw2_8, by decide +kernel, by decide⟩
theorem mv_X3_101 : MV RX3 101 yX0_subfieldEnd cX0_subfieldEnd 3 (some .int) 1 := ⟨kw2_14, kw2_15, kw2_16, kw1_4, kw2_17, by decide +kernel, by decide⟩
theorem mv_L_55 : MV RL 55 yX3_length cX3_length 1 (some .int) 0 := ⟨kw2_18, kw2_19, kw2_20, kw1_1, kw2_21, by decide +kernel, by decide⟩
theorem mv_L_59 : MV RL 59 yX3_leader cX3_leader 3 (some .boolean) 2 := ⟨kw2_22, kw2_23, kw2_24, kw1_1, kw2_25, by decide +kernel, by decide⟩
theorem ms_X3_111 : MS RX3 111 yX3_isFree cX3_isFree 3 (some .boolean) 1 := ⟨kw2_26, kw2_27, kw1_1, kw2_28, by decide +kernel, by decide⟩
theorem ms_X3_166 : MS RX3 166 yX3_fixedByte cX3_fixedByte 1 (some .int) 1 := ⟨kw2_29, kw1_162, kw1_1, kw1_163, by decide +kernel, by decide⟩
theorem ms_X3_114 : MS RX3 114 yJ7_fill_031fb cJ7_fill_031fb 4 none 2 := ⟨kw2_30, kw2_31, kw1_7, kw2_32, by decide +kernel, by decide⟩
theorem mv_L_64 : MV RL 64 yX3_put cX3_put 3 (some .int) 2 := ⟨kw2_33, kw2_34, kw2_35, kw1_1, kw2_36, by decide +kernel, by decide⟩
theorem mv_L_68 : MV RL 68 yX3_subfield2 cX3_subfield2 8 none 3 := ⟨kw2_37, kw2_38, kw2_39, kw1_1, kw2_40, by decide +kernel, by decide⟩
theorem ms_X3_124 : MS RX3 124 yX3_isMark cX3_isMark 1 (some .boolean) 1 := ⟨kw2_41, kw1_180, kw1_1, kw1_181, by decide +kernel, by decide⟩
theorem mv_X3_127 : MV RX3 127 yX0_lastCode cX0_lastCode 2 (some .int) 0 := ⟨kw2_42, kw2_43, kw2_44, kw1_4, kw2_45, by decide +kernel, by decide⟩
theorem mv_X3_130 : MV RX3 130 yX3_heldBytes cX3_heldBytes 3 (some .int) 0 := ⟨kw2_46, kw2_48, ks1_12, kw1_1, kw2_49, by decide +kernel, by decide⟩
theorem mv_X3_182 : MV RX3 182 yX0_heldBytes cX0_heldBytes 1 (some .int) 0 := ⟨kw2_50, kw2_51, kw2_52, kw1_4, kw2_53, by decide +kernel, by decide⟩
theorem mv_X0_41 : MV RX0 41 yX0_indicatorCount cX0_indicatorCount 1 (some .int) 0 := ⟨kw2_54, kw2_55, kw2_56, kw1_4, kw2_57, by decide +kernel, by decide⟩
theorem mn_X0_37 : MN RX0 "ExchangeRecords" 37 yX3_isControl cX3_isControl 1 (some .boolean) 1 := ⟨fun _ h => h.2.2.2.2.2.2.2.2, kw1_169, kw1_1, kw1_170, by decide +kernel, by decide⟩
theorem mv_L_73 : MV RL 73 yX3_write cX3_write 4 (some .int) 0 := ⟨kw2_59, kw2_60, kw2_61, kw1_1, kw2_62, by decide +kernel, by decide⟩
theorem mv_X3_135 : MV RX3 135 yX3_hasMarkAsIndicator cX3_hasMarkAsIndicator 3 (some .boolean) 0 := ⟨kw2_63, kw2_65, ks1_13, kw1_1, kw2_66, by decide +kernel, by decide⟩
theorem mv_X3_139 : MV RX3 139 yX0_writtenSize cX0_writtenSize 1 (some .int) 0 := ⟨kw2_67, kw2_68, kw2_69, kw1_4, kw2_70, by decide +kernel, by decide⟩
theorem mv_X3_142 : MV RX3 142 yX2_begin cX2_begin 2 none 1 := ⟨kw2_71, kw2_72, kw2_73, kw1_3, kw2_74, by decide +kernel, by decide⟩
theorem ms_X2_17 : MS RX2 17 yJ9_max_7cf53 cJ9_max_7cf53 2 (some .int) 2 := ⟨kw2_75, kw2_76, kw1_6, kw2_77, by decide +kernel, by decide⟩
theorem mv_X3_144 : MV RX3 144 yX3_emitLeader cX3_emitLeader 3 none 2 := ⟨kw2_78, kw2_80, ks1_14, kw1_1, kw2_81, by decide +kernel, by decide⟩
theorem mv_X3_183 : MV RX3 183 yX2_emitDigits cX2_emitDigits 6 none 2 := ⟨kw2_82, kw2_83, kw2_84, kw1_3, kw2_85, by decide +kernel, by decide⟩
theorem mv_X2_23 : MV RX2 23 yX2_emit cX2_emit 2 none 1 := ⟨kw2_86, kw2_87, kw2_88, kw1_3, kw2_89, by decide +kernel, by decide⟩
theorem mv_X3_186 : MV RX3 186 yX3_emitLeaderBytes cX3_emitLeaderBytes 5 none 2 := ⟨kw2_90, kw2_92, ks1_15, kw1_1, kw2_93, by decide +kernel, by decide⟩
theorem mv_X3_155 : MV RX3 155 yX2_emit cX2_emit 2 none 1 := ⟨kw2_94, kw2_87, kw2_88, kw1_3, kw2_89, by decide +kernel, by decide⟩
theorem mv_X3_148 : MV RX3 148 yX3_emitDirectory cX3_emitDirectory 4 none 0 := ⟨kw2_95, kw2_97, ks2_0, kw1_1, kw2_98, by decide +kernel, by decide⟩
theorem mv_X3_151 : MV RX3 151 yX3_emitField cX3_emitField 3 none 1 := ⟨kw2_99, kw2_101, ks2_1, kw1_1, kw2_102, by decide +kernel, by decide⟩
theorem mv_L_7 : MV RL 7 yX3_directory cX3_directory 3 (some .int) 2 := ⟨kw2_179, kw2_180, kw2_181, kw1_1, kw2_182, by decide +kernel, by decide⟩
theorem mi_X3_108 : MI RX3 108 yJx00060_init_a7421 cJx00060_init_a7421 2 1 := ⟨kw2_185, kw2_108, kw1_13, kw2_109, by decide +kernel, by decide, rfl⟩
theorem mv_L_15 : MV RL 15 yX3_octet cX3_octet 2 (some .byte) 1 := ⟨kw2_189, kw2_190, kw2_191, kw1_1, kw2_192, by decide +kernel, by decide⟩
theorem mv_X3_158 : MV RX3 158 yX2_has cX2_has 2 (some .boolean) 1 := ⟨kw2_193, kw2_194, kw2_195, kw1_3, kw2_196, by decide +kernel, by decide⟩
theorem mv_X3_163 : MV RX3 163 yX2_at cX2_at 2 (some .byte) 1 := ⟨kw2_198, kw2_199, kw2_200, kw1_3, kw2_201, by decide +kernel, by decide⟩
theorem mv_X2_27 : MV RX2 27 yX2_has cX2_has 2 (some .boolean) 1 := ⟨kw2_202, kw2_194, kw2_195, kw1_3, kw2_196, by decide +kernel, by decide⟩
theorem mi_L_22 : MI RL 22 yX4_init cX4_init 1 0 := ⟨kw2_205, kw2_206, kw1_5, kw2_207, by decide +kernel, by decide, rfl⟩
theorem gf_X4_37 {E : GE} {g : Cf} {cc : ByteArray} {ret : Option FieldType} {ws : va_W} {cells slots pc : Nat} {lv : List (Nat × Value)} {st : List Value} {a : Nat} (C : Cx E g cc RX4 ret) (q0 : Nat) {fs : List Value} {v : Value} (he : ws[q0]? = some (a, .inr (6, fs))) (hv : fs[0]? = some v) (d : decode cc pc = .ok (.getfield 37, 3)) (kk : G E g ws cells slots (pc + 3) lv (v :: st)) : G E g ws cells slots pc lv (.ref a :: st) := g_get C inG_X4 rfl 0 (by decide) kw2_211 q0 he hv d kk
theorem gp_X4_37 {E : GE} {g : Cf} {cc : ByteArray} {ret : Option FieldType} {ws : va_W} {cells slots pc : Nat} {lv : List (Nat × Value)} {st : List Value} {a : Nat} (C : Cx E g cc RX4 ret) (q0 : Nat) {fs : List Value} {v : Value} (he : ws[q0]? = some (a, .inr (6, fs))) (hl : 0 < fs.length) (hn : narrow (tyX4 0) v = v) (hfit : fits (tyX4 0) v = true) (d : decode cc pc = .ok (.putfield 37, 3)) (kk : G E g (ws.set q0 (a, .inr (6, fs.set 0 v))) cells slots (pc + 3) lv st) : G E g ws cells slots pc lv (v :: .ref a :: st) := g_put C inG_X4 tyX4 tyX4_ok nmX4 rfl 0 (by decide) rfl kw2_211 q0 he hl hn hfit d kk
theorem gf_X4_7 {E : GE} {g : Cf} {cc : ByteArray} {ret : Option FieldType} {ws : va_W} {cells slots pc : Nat} {lv : List (Nat × Value)} {st : List Value} {a : Nat} (C : Cx E g cc RX4 ret) (q0 : Nat) {fs : List Value} {v : Value} (he : ws[q0]? = some (a, .inr (6, fs))) (hv : fs[1]? = some v) (d : decode cc pc = .ok (.getfield 7, 3)) (kk : G E g ws cells slots (pc + 3) lv (v :: st)) : G E g ws cells slots pc lv (.ref a :: st) := g_get C inG_X4 rfl 1 (by decide) kw2_212 q0 he hv d kk
theorem gp_X4_7 {E : GE} {g : Cf} {cc : ByteArray} {ret : Option FieldType} {ws : va_W} {cells slots pc : Nat} {lv : List (Nat × Value)} {st : List Value} {a : Nat} (C : Cx E g cc RX4 ret) (hi : g.me.name = "<init>") (q0 : Nat) {fs : List Value} {v : Value} (he : ws[q0]? = some (a, .inr (6, fs))) (hl : 1 < fs.length) (hn : narrow (tyX4 1) v = v) (hfit : fits (tyX4 1) v = true) (d : decode cc pc = .ok (.putfield 7, 3)) (kk : G E g (ws.set q0 (a, .inr (6, fs.set 1 v))) cells slots (pc + 3) lv st) : G E g ws cells slots pc lv (v :: .ref a :: st) := g_putF C hi inG_X4 tyX4 tyX4_ok nmX4 rfl 1 (by decide) rfl rfl kw2_212 q0 he hl hn hfit d kk
theorem gf_X4_41 {E : GE} {g : Cf} {cc : ByteArray} {ret : Option FieldType} {ws : va_W} {cells slots pc : Nat} {lv : List (Nat × Value)} {st : List Value} {a : Nat} (C : Cx E g cc RX4 ret) (q0 : Nat) {fs : List Value} {v : Value} (he : ws[q0]? = some (a, .inr (6, fs))) (hv : fs[2]? = some v) (d : decode cc pc = .ok (.getfield 41, 3)) (kk : G E g ws cells slots (pc + 3) lv (v :: st)) : G E g ws cells slots pc lv (.ref a :: st) := g_get C inG_X4 rfl 2 (by decide) kw2_213 q0 he hv d kk
theorem gp_X4_41 {E : GE} {g : Cf} {cc : ByteArray} {ret : Option FieldType} {ws : va_W} {cells slots pc : Nat} {lv : List (Nat × Value)} {st : List Value} {a : Nat} (C : Cx E g cc RX4 ret) (q0 : Nat) {fs : List Value} {v : Value} (he : ws[q0]? = some (a, .inr (6, fs))) (hl : 2 < fs.length) (hn : narrow (tyX4 2) v = v) (hfit : fits (tyX4 2) v = true) (d : decode cc pc = .ok (.putfield 41, 3)) (kk : G E g (ws.set q0 (a, .inr (6, fs.set 2 v))) cells slots (pc + 3) lv st) : G E g ws cells slots pc lv (v :: .ref a :: st) := g_put C inG_X4 tyX4 tyX4_ok nmX4 rfl 2 (by decide) rfl kw2_213 q0 he hl hn hfit d kk
theorem gf_X4_44 {E : GE} {g : Cf} {cc : ByteArray} {ret : Option FieldType} {ws : va_W} {cells slots pc : Nat} {lv : List (Nat × Value)} {st : List Value} {a : Nat} (C : Cx E g cc RX4 ret) (q0 : Nat) {fs : List Value} {v : Value} (he : ws[q0]? = some (a, .inr (6, fs))) (hv : fs[3]? = some v) (d : decode cc pc = .ok (.getfield 44, 3)) (kk : G E g ws cells slots (pc + 3) lv (v :: st)) : G E g ws cells slots pc lv (.ref a :: st) := g_get C inG_X4 rfl 3 (by decide) kw2_214 q0 he hv d kk
theorem gp_X4_44 {E : GE} {g : Cf} {cc : ByteArray} {ret : Option FieldType} {ws : va_W} {cells slots pc : Nat} {lv : List (Nat × Value)} {st : List Value} {a : Nat} (C : Cx E g cc RX4 ret) (q0 : Nat) {fs : List Value} {v : Value} (he : ws[q0]? = some (a, .inr (6, fs))) (hl : 3 < fs.length) (hn : narrow (tyX4 3) v = v) (hfit : fits (tyX4 3) v = true) (d : decode cc pc = .ok (.putfield 44, 3)) (kk : G E g (ws.set q0 (a, .inr (6, fs.set 3 v))) cells slots (pc + 3) lv st) : G E g ws cells slots pc lv (v :: .ref a :: st) := g_put C inG_X4 tyX4 tyX4_ok nmX4 rfl 3 (by decide) rfl kw2_214 q0 he hl hn hfit d kk
theorem gf_X4_91 {E : GE} {g : Cf} {cc : ByteArray} {ret : Option FieldType} {ws : va_W} {cells slots pc : Nat} {lv : List (Nat × Value)} {st : List Value} {a : Nat} (C : Cx E g cc RX4 ret) (q0 : Nat) {fs : List Value} {v : Value} (he : ws[q0]? = some (a, .inr (6, fs))) (hv : fs[4]? = some v) (d : decode cc pc = .ok (.getfield 91, 3)) (kk : G E g ws cells slots (pc + 3) lv (v :: st)) : G E g ws cells slots pc lv (.ref a :: st) := g_get C inG_X4 rfl 4 (by decide) kw2_215 q0 he hv d kk
theorem gp_X4_91 {E : GE} {g : Cf} {cc : ByteArray} {ret : Option FieldType} {ws : va_W} {cells slots pc : Nat} {lv : List (Nat × Value)} {st : List Value} {a : Nat} (C : Cx E g cc RX4 ret) (q0 : Nat) {fs : List Value} {v : Value} (he : ws[q0]? = some (a, .inr (6, fs))) (hl : 4 < fs.length) (hn : narrow (tyX4 4) v = v) (hfit : fits (tyX4 4) v = true) (d : decode cc pc = .ok (.putfield 91, 3)) (kk : G E g (ws.set q0 (a, .inr (6, fs.set 4 v))) cells slots (pc + 3) lv st) : G E g ws cells slots pc lv (v :: .ref a :: st) := g_put C inG_X4 tyX4 tyX4_ok nmX4 rfl 4 (by decide) rfl kw2_215 q0 he hl hn hfit d kk
theorem gf_X4_13 {E : GE} {g : Cf} {cc : ByteArray} {ret : Option FieldType} {ws : va_W} {cells slots pc : Nat} {lv : List (Nat × Value)} {st : List Value} {a : Nat} (C : Cx E g cc RX4 ret) (q0 : Nat) {fs : List Value} {v : Value} (he : ws[q0]? = some (a, .inr (6, fs))) (hv : fs[5]? = some v) (d : decode cc pc = .ok (.getfield 13, 3)) (kk : G E g ws cells slots (pc + 3) lv (v :: st)) : G E g ws cells slots pc lv (.ref a :: st) := g_get C inG_X4 rfl 5 (by decide) kw2_216 q0 he hv d kk
theorem gp_X4_13 {E : GE} {g : Cf} {cc : ByteArray} {ret : Option FieldType} {ws : va_W} {cells slots pc : Nat} {lv : List (Nat × Value)} {st : List Value} {a : Nat} (C : Cx E g cc RX4 ret) (hi : g.me.name = "<init>") (q0 : Nat) {fs : List Value} {v : Value} (he : ws[q0]? = some (a, .inr (6, fs))) (hl : 5 < fs.length) (hn : narrow (tyX4 5) v = v) (hfit : fits (tyX4 5) v = true) (d : decode cc pc = .ok (.putfield 13, 3)) (kk : G E g (ws.set q0 (a, .inr (6, fs.set 5 v))) cells slots (pc + 3) lv st) : G E g ws cells slots pc lv (v :: .ref a :: st) := g_putF C hi inG_X4 tyX4 tyX4_ok nmX4 rfl 5 (by decide) rfl rfl kw2_216 q0 he hl hn hfit d kk
theorem gf_X4_16 {E : GE} {g : Cf} {cc : ByteArray} {ret : Option FieldType} {ws : va_W} {cells slots pc : Nat} {lv : List (Nat × Value)} {st : List Value} {a : Nat} (C : Cx E g cc RX4 ret) (q0 : Nat) {fs : List Value} {v : Value} (he : ws[q0]? = some (a, .inr (6, fs))) (hv : fs[6]? = some v) (d : decode cc pc = .ok (.getfield 16, 3)) (kk : G E g ws cells slots (pc + 3) lv (v :: st)) : G E g ws cells slots pc lv (.ref a :: st) := g_get C inG_X4 rfl 6 (by decide) kw2_217 q0 he hv d kk
theorem gp_X4_16 {E : GE} {g : Cf} {cc : ByteArray} {ret : Option FieldType} {ws : va_W} {cells slots pc : Nat} {lv : List (Nat × Value)} {st : List Value} {a : Nat} (C : Cx E g cc RX4 ret) (hi : g.me.name = "<init>") (q0 : Nat) {fs : List Value} {v : Value} (he : ws[q0]? = some (a, .inr (6, fs))) (hl : 6 < fs.length) (hn : narrow (tyX4 6) v = v) (hfit : fits (tyX4 6) v = true) (d : decode cc pc = .ok (.putfield 16, 3)) (kk : G E g (ws.set q0 (a, .inr (6, fs.set 6 v))) cells slots (pc + 3) lv st) : G E g ws cells slots pc lv (v :: .ref a :: st) := g_putF C hi inG_X4 tyX4 tyX4_ok nmX4 rfl 6 (by decide) rfl rfl kw2_217 q0 he hl hn hfit d kk
theorem gf_X4_21 {E : GE} {g : Cf} {cc : ByteArray} {ret : Option FieldType} {ws : va_W} {cells slots pc : Nat} {lv : List (Nat × Value)} {st : List Value} {a : Nat} (C : Cx E g cc RX4 ret) (q0 : Nat) {fs : List Value} {v : Value} (he : ws[q0]? = some (a, .inr (6, fs))) (hv : fs[7]? = some v) (d : decode cc pc = .ok (.getfield 21, 3)) (kk : G E g ws cells slots (pc + 3) lv (v :: st)) : G E g ws cells slots pc lv (.ref a :: st) := g_get C inG_X4 rfl 7 (by decide) kw2_218 q0 he hv d kk
theorem gp_X4_21 {E : GE} {g : Cf} {cc : ByteArray} {ret : Option FieldType} {ws : va_W} {cells slots pc : Nat} {lv : List (Nat × Value)} {st : List Value} {a : Nat} (C : Cx E g cc RX4 ret) (hi : g.me.name = "<init>") (q0 : Nat) {fs : List Value} {v : Value} (he : ws[q0]? = some (a, .inr (6, fs))) (hl : 7 < fs.length) (hn : narrow (tyX4 7) v = v) (hfit : fits (tyX4 7) v = true) (d : decode cc pc = .ok (.putfield 21, 3)) (kk : G E g (ws.set q0 (a, .inr (6, fs.set 7 v))) cells slots (pc + 3) lv st) : G E g ws cells slots pc lv (v :: .ref a :: st) := g_putF C hi inG_X4 tyX4 tyX4_ok nmX4 rfl 7 (by decide) rfl rfl kw2_218 q0 he hl hn hfit d kk
theorem gf_X4_24 {E : GE} {g : Cf} {cc : ByteArray} {ret : Option FieldType} {ws : va_W} {cells slots pc : Nat} {lv : List (Nat × Value)} {st : List Value} {a : Nat} (C : Cx E g cc RX4 ret) (q0 : Nat) {fs : List Value} {v : Value} (he : ws[q0]? = some (a, .inr (6, fs))) (hv : fs[8]? = some v) (d : decode cc pc = .ok (.getfield 24, 3)) (kk : G E g ws cells slots (pc + 3) lv (v :: st)) : G E g ws cells slots pc lv (.ref a :: st) := g_get C inG_X4 rfl 8 (by decide) kw2_219 q0 he hv d kk
theorem gp_X4_24 {E : GE} {g : Cf} {cc : ByteArray} {ret : Option FieldType} {ws : va_W} {cells slots pc : Nat} {lv : List (Nat × Value)} {st : List Value} {a : Nat} (C : Cx E g cc RX4 ret) (hi : g.me.name = "<init>") (q0 : Nat) {fs : List Value} {v : Value} (he : ws[q0]? = some (a, .inr (6, fs))) (hl : 8 < fs.length) (hn : narrow (tyX4 8) v = v) (hfit : fits (tyX4 8) v = true) (d : decode cc pc = .ok (.putfield 24, 3)) (kk : G E g (ws.set q0 (a, .inr (6, fs.set 8 v))) cells slots (pc + 3) lv st) : G E g ws cells slots pc lv (v :: .ref a :: st) := g_putF C hi inG_X4 tyX4 tyX4_ok nmX4 rfl 8 (by decide) rfl rfl kw2_219 q0 he hl hn hfit d kk
theorem gf_X4_88 {E : GE} {g : Cf} {cc : ByteArray} {ret : Option FieldType} {ws : va_W} {cells slots pc : Nat} {lv : List (Nat × Value)} {st : List Value} {a : Nat} (C : Cx E g cc RX4 ret) (q0 : Nat) {fs : List Value} {v : Value} (he : ws[q0]? = some (a, .inr (6, fs))) (hv : fs[9]? = some v) (d : decode cc pc = .ok (.getfield 88, 3)) (kk : G E g ws cells slots (pc + 3) lv (v :: st)) : G E g ws cells slots pc lv (.ref a :: st) := g_get C inG_X4 rfl 9 (by decide) kw2_220 q0 he hv d kk
theorem gp_X4_88 {E : GE} {g : Cf} {cc : ByteArray} {ret : Option FieldType} {ws : va_W} {cells slots pc : Nat} {lv : List (Nat × Value)} {st : List Value} {a : Nat} (C : Cx E g cc RX4 ret) (q0 : Nat) {fs : List Value} {v : Value} (he : ws[q0]? = some (a, .inr (6, fs))) (hl : 9 < fs.length) (hn : narrow (tyX4 9) v = v) (hfit : fits (tyX4 9) v = true) (d : decode cc pc = .ok (.putfield 88, 3)) (kk : G E g (ws.set q0 (a, .inr (6, fs.set 9 v))) cells slots (pc + 3) lv st) : G E g ws cells slots pc lv (v :: .ref a :: st) := g_put C inG_X4 tyX4 tyX4_ok nmX4 rfl 9 (by decide) rfl kw2_220 q0 he hl hn hfit d kk
theorem gf_X4_27 {E : GE} {g : Cf} {cc : ByteArray} {ret : Option FieldType} {ws : va_W} {cells slots pc : Nat} {lv : List (Nat × Value)} {st : List Value} {a : Nat} (C : Cx E g cc RX4 ret) (q0 : Nat) {fs : List Value} {v : Value} (he : ws[q0]? = some (a, .inr (6, fs))) (hv : fs[10]? = some v) (d : decode cc pc = .ok (.getfield 27, 3)) (kk : G E g ws cells slots (pc + 3) lv (v :: st)) : G E g ws cells slots pc lv (.ref a :: st) := g_get C inG_X4 rfl 10 (by decide) kw2_221 q0 he hv d kk
theorem gp_X4_27 {E : GE} {g : Cf} {cc : ByteArray} {ret : Option FieldType} {ws : va_W} {cells slots pc : Nat} {lv : List (Nat × Value)} {st : List Value} {a : Nat} (C : Cx E g cc RX4 ret) (hi : g.me.name = "<init>") (q0 : Nat) {fs : List Value} {v : Value} (he : ws[q0]? = some (a, .inr (6, fs))) (hl : 10 < fs.length) (hn : narrow (tyX4 10) v = v) (hfit : fits (tyX4 10) v = true) (d : decode cc pc = .ok (.putfield 27, 3)) (kk : G E g (ws.set q0 (a, .inr (6, fs.set 10 v))) cells slots (pc + 3) lv st) : G E g ws cells slots pc lv (v :: .ref a :: st) := g_putF C hi inG_X4 tyX4 tyX4_ok nmX4 rfl 10 (by decide) rfl rfl kw2_221 q0 he hl hn hfit d kk
theorem gf_X4_30 {E : GE} {g : Cf} {cc : ByteArray} {ret : Option FieldType} {ws : va_W} {cells slots pc : Nat} {lv : List (Nat × Value)} {st : List Value} {a : Nat} (C : Cx E g cc RX4 ret) (q0 : Nat) {fs : List Value} {v : Value} (he : ws[q0]? = some (a, .inr (6, fs))) (hv : fs[11]? = some v) (d : decode cc pc = .ok (.getfield 30, 3)) (kk : G E g ws cells slots (pc + 3) lv (v :: st)) : G E g ws cells slots pc lv (.ref a :: st) := g_get C inG_X4 rfl 11 (by decide) kw2_222 q0 he hv d kk
theorem gp_X4_30 {E : GE} {g : Cf} {cc : ByteArray} {ret : Option FieldType} {ws : va_W} {cells slots pc : Nat} {lv : List (Nat × Value)} {st : List Value} {a : Nat} (C : Cx E g cc RX4 ret) (hi : g.me.name = "<init>") (q0 : Nat) {fs : List Value} {v : Value} (he : ws[q0]? = some (a, .inr (6, fs))) (hl : 11 < fs.length) (hn : narrow (tyX4 11) v = v) (hfit : fits (tyX4 11) v = true) (d : decode cc pc = .ok (.putfield 30, 3)) (kk : G E g (ws.set q0 (a, .inr (6, fs.set 11 v))) cells slots (pc + 3) lv st) : G E g ws cells slots pc lv (v :: .ref a :: st) := g_putF C hi inG_X4 tyX4 tyX4_ok nmX4 rfl 11 (by decide) rfl rfl kw2_222 q0 he hl hn hfit d kk
theorem gf_X4_85 {E : GE} {g : Cf} {cc : ByteArray} {ret : Option FieldType} {ws : va_W} {cells slots pc : Nat} {lv : List (Nat × Value)} {st : List Value} {a : Nat} (C : Cx E g cc RX4 ret) (q0 : Nat) {fs : List Value} {v : Value} (he : ws[q0]? = some (a, .inr (6, fs))) (hv : fs[12]? = some v) (d : decode cc pc = .ok (.getfield 85, 3)) (kk : G E g ws cells slots (pc + 3) lv (v :: st)) : G E g ws cells slots pc lv (.ref a :: st) := g_get C inG_X4 rfl 12 (by decide) kw2_223 q0 he hv d kk
theorem gp_X4_85 {E : GE} {g : Cf} {cc : ByteArray} {ret : Option FieldType} {ws : va_W} {cells slots pc : Nat} {lv : List (Nat × Value)} {st : List Value} {a : Nat} (C : Cx E g cc RX4 ret) (q0 : Nat) {fs : List Value} {v : Value} (he : ws[q0]? = some (a, .inr (6, fs))) (hl : 12 < fs.length) (hn : narrow (tyX4 12) v = v) (hfit : fits (tyX4 12) v = true) (d : decode cc pc = .ok (.putfield 85, 3)) (kk : G E g (ws.set q0 (a, .inr (6, fs.set 12 v))) cells slots (pc + 3) lv st) : G E g ws cells slots pc lv (v :: .ref a :: st) := g_put C inG_X4 tyX4 tyX4_ok nmX4 rfl 12 (by decide) rfl kw2_223 q0 he hl hn hfit d kk
theorem gf_X4_34 {E : GE} {g : Cf} {cc : ByteArray} {ret : Option FieldType} {ws : va_W} {cells slots pc : Nat} {lv : List (Nat × Value)} {st : List Value} {a : Nat} (C : Cx E g cc RX4 ret) (q0 : Nat) {fs : List Value} {v : Value} (he : ws[q0]? = some (a, .inr (6, fs))) (hv : fs[13]? = some v) (d : decode cc pc = .ok (.getfield 34, 3)) (kk : G E g ws cells slots (pc + 3) lv (v :: st)) : G E g ws cells slots pc lv (.ref a :: st) := g_get C inG_X4 rfl 13 (by decide) kw2_224 q0 he hv d kk
theorem gp_X4_34 {E : GE} {g : Cf} {cc : ByteArray} {ret : Option FieldType} {ws : va_W} {cells slots pc : Nat} {lv : List (Nat × Value)} {st : List Value} {a : Nat} (C : Cx E g cc RX4 ret) (hi : g.me.name = "<init>") (q0 : Nat) {fs : List Value} {v : Value} (he : ws[q0]? = some (a, .inr (6, fs))) (hl : 13 < fs.length) (hn : narrow (tyX4 13) v = v) (hfit : fits (tyX4 13) v = true) (d : decode cc pc = .ok (.putfield 34, 3)) (kk : G E g (ws.set q0 (a, .inr (6, fs.set 13 v))) cells slots (pc + 3) lv st) : G E g ws cells slots pc lv (v :: .ref a :: st) := g_putF C hi inG_X4 tyX4 tyX4_ok nmX4 rfl 13 (by decide) rfl rfl kw2_224 q0 he hl hn hfit d kk
theorem gf_X4_118 {E : GE} {g : Cf} {cc : ByteArray} {ret : Option FieldType} {ws : va_W} {cells slots pc : Nat} {lv : List (Nat × Value)} {st : List Value} {a : Nat} (C : Cx E g cc RX4 ret) (q0 : Nat) {fs : List Value} {v : Value} (he : ws[q0]? = some (a, .inr (6, fs))) (hv : fs[14]? = some v) (d : decode cc pc = .ok (.getfield 118, 3)) (kk : G E g ws cells slots (pc + 3) lv (v :: st)) : G E g ws cells slots pc lv (.ref a :: st) := g_get C inG_X4 rfl 14 (by decide) kw2_225 q0 he hv d kk
theorem gp_X4_118 {E : GE} {g : Cf} {cc : ByteArray} {ret : Option FieldType} {ws : va_W} {cells slots pc : Nat} {lv : List (Nat × Value)} {st : List Value} {a : Nat} (C : Cx E g cc RX4 ret) (q0 : Nat) {fs : List Value} {v : Value} (he : ws[q0]? = some (a, .inr (6, fs))) (hl : 14 < fs.length) (hn : narrow (tyX4 14) v = v) (hfit : fits (tyX4 14) v = true) (d : decode cc pc = .ok (.putfield 118, 3)) (kk : G E g (ws.set q0 (a, .inr (6, fs.set 14 v))) cells slots (pc + 3) lv st) : G E g ws cells slots pc lv (v :: .ref a :: st) := g_put C inG_X4 tyX4 tyX4_ok nmX4 rfl 14 (by decide) rfl kw2_225 q0 he hl hn hfit d kk
theorem gf_X4_47 {E : GE} {g : Cf} {cc : ByteArray} {ret : Option FieldType} {ws : va_W} {cells slots pc : Nat} {lv : List (Nat × Value)} {st : List Value} {a : Nat} (C : Cx E g cc RX4 ret) (q0 : Nat) {fs : List Value} {v : Value} (he : ws[q0]? = some (a, .inr (6, fs))) (hv : fs[15]? = some v) (d : decode cc pc = .ok (.getfield 47, 3)) (kk : G E g ws cells slots (pc + 3) lv (v :: st)) : G E g ws cells slots pc lv (.ref a :: st) := g_get C inG_X4 rfl 15 (by decide) kw2_226 q0 he hv d kk
theorem gp_X4_47 {E : GE} {g : Cf} {cc : ByteArray} {ret : Option FieldType} {ws : va_W} {cells slots pc : Nat} {lv : List (Nat × Value)} {st : List Value} {a : Nat} (C : Cx E g cc RX4 ret) (q0 : Nat) {fs : List Value} {v : Value} (he : ws[q0]? = some (a, .inr (6, fs))) (hl : 15 < fs.length) (hn : narrow (tyX4 15) v = v) (hfit : fits (tyX4 15) v = true) (d : decode cc pc = .ok (.putfield 47, 3)) (kk : G E g (ws.set q0 (a, .inr (6, fs.set 15 v))) cells slots (pc + 3) lv st) : G E g ws cells slots pc lv (v :: .ref a :: st) := g_put C inG_X4 tyX4 tyX4_ok nmX4 rfl 15 (by decide) rfl kw2_226 q0 he hl hn hfit d kk
theorem mv_L_52 : MV RL 52 yX4_thrown cX4_thrown 1 (some .int) 0 := ⟨kw3_20, kw3_21, kw3_22, kw1_5, kw3_23, by decide +kernel, by decide⟩
theorem mv_L_27 : MV RL 27 yX4_add cX4_add 2 none 1 := ⟨kw3_24, kw3_25, kw3_26, kw1_5, kw3_27, by decide +kernel, by decide⟩
theorem mv_L_32 : MV RL 32 yX4_read cX4_read 2 (some .int) 0 := ⟨kw3_28, kw3_29, kw3_30, kw1_5, kw3_31, by decide +kernel, by decide⟩
theorem mv_X4_65 : MV RX4 65 yX4_digits cX4_digits 4 (some .boolean) 2 := ⟨kw3_32, kw3_34, ks2_3, kw1_5, kw3_35, by decide +kernel, by decide⟩
theorem mv_X4_50 : MV RX4 50 yX4_look cX4_look 2 (some .int) 1 := ⟨kw3_36, kw3_38, ks2_4, kw1_5, kw3_39, by decide +kernel, by decide⟩
theorem mv_X4_54 : MV RX4 54 yX4_bad cX4_bad 2 (some .boolean) 1 := ⟨kw3_40, kw3_42, ks2_5, kw1_5, kw3_43, by decide +kernel, by decide⟩
theorem mv_X4_68 : MV RX4 68 yX4_number cX4_number 5 (some .int) 2 := ⟨kw3_44, kw3_46, ks2_6, kw1_5, kw3_47, by decide +kernel, by decide⟩
theorem mv_X4_95 : MV RX4 95 yX4_reads cX4_reads 4 (some .boolean) 1 := ⟨kw3_48, kw3_50, ks2_7, kw1_5, kw3_51, by decide +kernel, by decide⟩
theorem mv_X4_61 : MV RX4 61 yX4_must cX4_must 3 (some .boolean) 2 := ⟨kw3_52, kw3_54, ks2_8, kw1_5, kw3_55, by decide +kernel, by decide⟩
theorem mv_X4_78 : MV RX4 78 yX4_heads cX4_heads 3 (some .boolean) 2 := ⟨kw3_56, kw3_58, ks2_9, kw1_5, kw3_59, by decide +kernel, by decide⟩
theorem mv_X4_81 : MV RX4 81 yX4_row cX4_row 8 (some .boolean) 3 := ⟨kw3_60, kw3_62, ks2_10, kw1_5, kw3_63, by decide +kernel, by decide⟩
theorem mv_X4_72 : MV RX4 72 yX4_control cX4_control 4 (some .boolean) 2 := ⟨kw3_64, kw3_66, ks2_11, kw1_5, kw3_67, by decide +kernel, by decide⟩
theorem ms_X4_58 : MS RX4 58 yX4_isMark cX4_isMark 1 (some .boolean) 1 := ⟨kw3_68, kw3_69, kw1_5, kw3_70, by decide +kernel, by decide⟩
theorem mv_X4_75 : MV RX4 75 yX4_data cX4_data 5 (some .boolean) 2 := ⟨kw3_71, kw3_73, ks2_12, kw1_5, kw3_74, by decide +kernel, by decide⟩
theorem mv_X4_98 : MV RX4 98 yX4_keep cX4_keep 4 none 0 := ⟨kw3_75, kw3_77, ks2_13, kw1_5, kw3_78, by decide +kernel, by decide⟩
theorem mv_L_36 : MV RL 36 yX4_field cX4_field 5 (some .int) 2 := ⟨kw3_79, kw3_80, kw3_81, kw1_5, kw3_82, by decide +kernel, by decide⟩
theorem mv_L_40 : MV RL 40 yX4_indicator cX4_indicator 3 (some .int) 2 := ⟨kw3_83, kw3_84, kw3_85, kw1_5, kw3_86, by decide +kernel, by decide⟩
theorem mv_X4_101 : MV RX4 101 yX4_isField cX4_isField 2 (some .boolean) 1 := ⟨kw3_87, kw3_89, ks2_14, kw1_5, kw3_90, by decide +kernel, by decide⟩
theorem mv_X4_104 : MV RX4 104 yX4_at cX4_at 3 (some .int) 2 := ⟨kw3_91, kw3_93, ks2_15, kw1_5, kw3_94, by decide +kernel, by decide⟩
theorem mv_L_45 : MV RL 45 yX4_subfield cX4_subfield 9 (some .int) 4 := ⟨kw3_95, kw3_96, kw3_97, kw1_5, kw3_98, by decide +kernel, by decide⟩
theorem mv_L_51 : MV RL 51 yX4_directory cX4_directory 3 (some .int) 2 := ⟨kw3_99, kw3_100, kw3_101, kw1_5, kw3_102, by decide +kernel, by decide⟩
theorem mv_L_58 : MV RL 58 yX4_length cX4_length 1 (some .int) 0 := ⟨kw3_103, kw3_104, kw3_105, kw1_5, kw3_106, by decide +kernel, by decide⟩
theorem mv_L_63 : MV RL 63 yX4_leader cX4_leader 4 (some .boolean) 2 := ⟨kw3_107, kw3_108, kw3_109, kw1_5, kw3_110, by decide +kernel, by decide⟩
theorem ms_X4_107 : MS RX4 107 yX4_isAny cX4_isAny 1 (some .boolean) 1 := ⟨kw3_111, kw3_112, kw1_5, kw3_113, by decide +kernel, by decide⟩
theorem mv_L_67 : MV RL 67 yX4_put cX4_put 3 (some .int) 2 := ⟨kw3_114, kw3_115, kw3_116, kw1_5, kw3_117, by decide +kernel, by decide⟩
theorem mv_L_72 : MV RL 72 yX4_subfield2 cX4_subfield2 6 none 3 := ⟨kw3_118, kw3_119, kw3_120, kw1_5, kw3_121, by decide +kernel, by decide⟩
theorem mv_X4_110 : MV RX4 110 yX4_together cX4_together 4 (some .int) 0 := ⟨kw3_122, kw3_124, ks3_0, kw1_5, kw3_125, by decide +kernel, by decide⟩
theorem mv_X4_114 : MV RX4 114 yX4_append cX4_append 3 none 2 := ⟨kw3_126, kw3_128, ks3_1, kw1_5, kw3_129, by decide +kernel, by decide⟩
theorem mv_L_76 : MV RL 76 yX4_write cX4_write 7 (some .int) 0 := ⟨kw3_130, kw3_131, kw3_132, kw1_5, kw3_133, by decide +kernel, by decide⟩
theorem mv_X4_125 : MV RX4 125 yX4_sayNumber cX4_sayNumber 5 none 2 := ⟨kw3_134, kw3_136, ks3_2, kw1_5, kw3_137, by decide +kernel, by decide⟩
theorem mv_X4_121 : MV RX4 121 yX4_say cX4_say 2 none 1 := ⟨kw3_138, kw3_140, ks3_3, kw1_5, kw3_141, by decide +kernel, by decide⟩
theorem mv_L_80 : MV RL 80 yX4_octet cX4_octet 2 (some .byte) 1 := ⟨kw3_142, kw3_143, kw3_144, kw1_5, kw3_145, by decide +kernel, by decide⟩
end
section
section GB
variable {E : GE} {g : Cf} {ws : va_W} {cells slots pc : Nat} {lv : List (Nat × Value)} {st : List Value}
theorem g_lvE {lv' : List (Nat × Value)} (h : lv = lv') (k : G E g ws cells slots pc lv' st) : G E g ws cells slots pc lv st := h ▸ k
theorem g_tail {X Z w : va_W} (k : G E g ((X ++ w) ++ Z) cells slots pc lv st) : G E g ((X ++ Z) ++ w) cells slots pc lv st := by
  refine g_ws (ws' := (X ++ w) ++ Z) (fun H hP => ?_) (fun hD => ?_) k
  · intro k q hk
    have : q ∈ (X ++ Z) ++ w := by
      have h := List.mem_of_getElem? hk
      simp only [List.mem_append] at h ⊢
      rcases h with (h | h) | h
      · exact Or.inl (Or.inl h)
      · exact Or.inr h
      · exact Or.inl (Or.inr h)
    obtain ⟨i, hi⟩ := List.getElem?_of_mem this
    exact hP i q hi
  · refine va_D.app (va_D.app hD.left.left hD.right (fun i j p q hi hj => hD.cross (i := i) (by rw [List.getElem?_append_left (List.getElem?_eq_some_iff.mp hi).1]; exact hi) hj)) hD.left.right (fun i j p q hi hj e => ?_)
    by_cases h1 : i < X.length
    · rw [List.getElem?_append_left h1] at hi
      exact hD.left.cross hi hj e
    · rw [List.getElem?_append_right (by omega)] at hi
      exact hD.cross (i := X.length + j) (by rw [List.getElem?_append_right (by omega), Nat.add_sub_cancel_left]; exact hj) hi e.symm
theorem g_permZ {X ws' Z : va_W} (is : List Nat) (hn : va_nd is = true) (hs : is.map (fun i => X[i]?) = ws'.map some) (hl : is.length = X.length) (k : G E g (ws' ++ Z) cells slots pc lv st) : G E g (X ++ Z) cells slots pc lv st := by
  have hm : ∀ q ∈ ws', q ∈ X := by
    intro q hq
    obtain ⟨i, hi⟩ := List.getElem?_of_mem hq
    have h2 : (is.map (fun i => X[i]?))[i]? = some (some q) := by rw [hs, List.getElem?_map, hi]; rfl
    rw [List.getElem?_map] at h2
    obtain ⟨j, hj, e⟩ := Option.map_eq_some_iff.mp h2
    exact List.mem_of_getElem? e
  refine g_ws (ws' := ws' ++ Z) (fun H hP => ?_) (fun hD => ?_) k
  · intro k q hk
    have : q ∈ X ++ Z := by
      have h := List.mem_of_getElem? hk
      simp only [List.mem_append] at h ⊢
      exact h.elim (fun h => Or.inl (hm q h)) Or.inr
    obtain ⟨i, hi⟩ := List.getElem?_of_mem this
    exact hP i q hi
  · refine va_D.app (hD.left.sub is hn hs) hD.right (fun i j p q hi hj => ?_)
    obtain ⟨i2, hi2⟩ := List.getElem?_of_mem (hm p (List.mem_of_getElem? hi))
    exact hD.cross hi2 hj
end GB
theorem Spl.none (ws : va_W) : Spl ws ws [] := ⟨fun _ _ _ hP => ⟨hP, fun k q h => by simp at h⟩, fun _ hD => by rw [List.append_nil]; exact hD⟩
theorem Spl.atZ {X Z wr wc : va_W} (isR isC : List Nat) (hR : isR.map (fun i => X[i]?) = wr.map some) (hC : isC.map (fun i => X[i]?) = wc.map some) (hn : va_nd (isR ++ isC) = true) : Spl (X ++ Z) (wr ++ Z) wc := by
  have key : ∀ (is : List Nat) (w : va_W), is.map (fun i => X[i]?) = w.map some → ∀ q ∈ w, q ∈ X := by
    intro is w hs q hq
    obtain ⟨i, hi⟩ := List.getElem?_of_mem hq
    have h2 : (is.map (fun i => X[i]?))[i]? = some (some q) := by rw [hs, List.getElem?_map, hi]; rfl
    rw [List.getElem?_map] at h2
    obtain ⟨j, hj, e⟩ := Option.map_eq_some_iff.mp h2
    exact List.mem_of_getElem? e
  refine ⟨fun D cl H hP => ⟨fun k q hk => ?_, fun k q hk => ?_⟩, fun A hD => ?_⟩
  · have : q ∈ X ++ Z := by
      have h := List.mem_of_getElem? hk
      simp only [List.mem_append] at h ⊢
      exact h.elim (fun h => Or.inl (key isR wr hR q h)) Or.inr
    obtain ⟨i, hi⟩ := List.getElem?_of_mem this
    exact hP i q hi
  · have : q ∈ X ++ Z := List.mem_append_left _ (key isC wc hC q (List.mem_of_getElem? hk))
    obtain ⟨i, hi⟩ := List.getElem?_of_mem this
    exact hP i q hi
  · have h1 : va_D A (wr ++ wc) := hD.left.sub (isR ++ isC) hn (by rw [List.map_append, List.map_append, hR, hC])
    refine va_D.app (va_D.app h1.left hD.right (fun i j p q hi hj => ?_)) h1.right (fun i j p q hi hj => ?_)
    · obtain ⟨i2, hi2⟩ := List.getElem?_of_mem (key isR wr hR p (List.mem_of_getElem? hi))
      exact hD.cross hi2 hj
    · obtain ⟨j2, hj2⟩ := List.getElem?_of_mem (key isC wc hC q (List.mem_of_getElem? hj))
      by_cases hw : i < wr.length
      · rw [List.getElem?_append_left hw] at hi
        exact h1.cross hi hj
      · rw [List.getElem?_append_right (by omega)] at hi
        exact fun e => hD.cross hj2 hi e.symm
theorem nz_b (x : Int32) (h : 0 ≤ x.toInt ∧ x.toInt ≤ 1) : narrow .boolean (.int x) = .int x := by
  have : x = 0 ∨ x = 1 := by
    rcases (show x.toInt = 0 ∨ x.toInt = 1 by omega) with h | h
    · exact Or.inl (ti_inj h)
    · exact Or.inr (ti_inj h)
  rcases this with rfl | rfl <;> rfl
theorem fz_b (x : Int32) (h : 0 ≤ x.toInt ∧ x.toInt ≤ 1) : fits .boolean (.int x) = true := by
  have : x = 0 ∨ x = 1 := by
    rcases (show x.toInt = 0 ∨ x.toInt = 1 by omega) with h | h
    · exact Or.inl (ti_inj h)
    · exact Or.inr (ti_inj h)
  rcases this with rfl | rfl <;> rfl
/-- an int comes back, of which P holds, and the world is wc -/
def oI (P : Int32 → Prop) (wc : va_W) : Option Value → va_W → Prop := fun v w => ∃ r : Int32, v = some (.int r) ∧ P r ∧ w = wc
def oV (wc : va_W) : Option Value → va_W → Prop := fun v w => v = none ∧ w = wc
/-- byte k of an array from a place on, unsigned -/
def lk (f : Nat → Int32) (pl k : Nat) : Nat := u8 (f (pl + k))
theorem lk_lt (f : Nat → Int32) (pl k : Nat) : lk f pl k < 256 := u8_lt _
/-- the number that dg places from fr on tell -/
def numI (b : Nat → Nat) (fr : Nat) : Nat → Int
  | 0 => 0
  | k + 1 => numI b fr k * 10 + (b (fr + k) : Int) - 48
theorem numI_bd {b : Nat → Nat} (hb : ∀ j, b j < 256) (fr : Nat) : ∀ k, k ≤ 5 → -600000 ≤ numI b fr k ∧ numI b fr k ≤ 2400000
  | 0, _ => by simp [numI]
  | 1, _ => by have := hb fr; simp only [numI, Nat.add_zero]; omega
  | 2, _ => by have := hb fr; have := hb (fr + 1); simp only [numI, Nat.add_zero]; omega
  | 3, _ => by have := hb fr; have := hb (fr + 1); have := hb (fr + 2); simp only [numI, Nat.add_zero]; omega
  | 4, _ => by have := hb fr; have := hb (fr + 1); have := hb (fr + 2); have := hb (fr + 3); simp only [numI, Nat.add_zero]; omega
  | 5, _ => by have := hb fr; have := hb (fr + 1); have := hb (fr + 2); have := hb (fr + 3); have := hb (fr + 4); simp only [numI, Nat.add_zero]; omega
theorem Met.post {l : Launch} {E : GE} {y : MethodName} {w0 : List Cond} {rm : Room} {Pc : Array Value → State → Prop} {p1 p2 : Option Value → va_W → Prop} {ws : va_W} {sz mc ms : Nat} {free : Addr → Prop} (h : Met l y w0 rm Pc (Qs E p1 ws sz) mc ms free) (hp : ∀ v w, p1 v w → p2 v w) : Met l y w0 rm Pc (Qs E p2 ws sz) mc ms free := by
  intro p e ha hc hk s m args below hf happ hP hz
  obtain ⟨k, o, h1, h2, h3, ⟨⟨v, w', q1, q2, q3, q4⟩, hF⟩, h5⟩ := h p e ha hc hk s m args below hf happ hP hz
  exact ⟨k, o, h1, h2, h3, ⟨⟨v, w', q1, hp v w' q2, q3, q4⟩, hF⟩, h5⟩
theorem g_lookup {E : GE} {g : Cf} {cc : ByteArray} {own : String} {ret : Option FieldType} {ws : va_W} {cells slots pc : Nat} {lv : List (Nat × Value)} {st : List Value} (C : Cx E g cc own ret) {dflt : Int} {ps : Array (Int × Int)} {len : Nat} {x : Int32} {off : Int} (tgt : Nat) (d : decode cc pc = .ok (.lookupswitch dflt ps, len)) (hp : (ps.toList.zip (ps.toList.drop 1)).all (fun (a, next) => a.1 < next.1) = true) (ho : Op.lookupswitch.offset ps.toList dflt x.toInt = off) (ht : (pc : Int) + off = (tgt : Int)) (kk : G E g ws cells slots tgt lv st) : G E g ws cells slots pc lv (.int x :: st) :=
  fun H locs ls hl hP hD hS => lv_lookup C.1 C.2.1 d hp ho ht (kk H locs ls hl hP hD hS)
end
section
/-! WHAT IS WRONG IN A RECORD, as numbers: -1 where nothing is -/
def isD (x : Nat) : Bool := decide (48 ≤ x ∧ x ≤ 57)
def isM (x : Nat) : Bool := decide (29 ≤ x ∧ x ≤ 31)
/-- the first place of n from fr on of which P holds, or -1 -/
def fI (P : Nat → Bool) : Nat → Nat → Int
  | _, 0 => -1
  | fr, n + 1 => if P fr then (fr : Int) else fI P (fr + 1) n
theorem fI_hit {P : Nat → Bool} {fr n : Nat} (h : P fr = true) (hn : 0 < n) : fI P fr n = (fr : Int) := by
  cases n with
  | zero => omega
  | succ n => simp [fI, h]
theorem fI_miss {P : Nat → Bool} {fr n : Nat} (h : P fr = false) (hn : 0 < n) : fI P fr n = fI P (fr + 1) (n - 1) := by
  cases n with
  | zero => omega
  | succ n => simp [fI, h]
theorem fI_zero {P : Nat → Bool} {fr n : Nat} (hn : n = 0) : fI P fr n = -1 := by subst hn; rfl
theorem fI_rng (P : Nat → Bool) : ∀ n fr, fI P fr n = -1 ∨ ((fr : Int) ≤ fI P fr n ∧ fI P fr n < ((fr + n : Nat) : Int))
  | 0, _ => Or.inl rfl
  | n + 1, fr => by
    simp only [fI]
    split
    · right; omega
    · rcases fI_rng P n (fr + 1) with h | h
      · left; exact h
      · right; omega
theorem fI_none {P : Nat → Bool} : ∀ {n fr : Nat}, fI P fr n = -1 → ∀ j, fr ≤ j → j < fr + n → P j = false
  | 0, _, _, j, h1, h2 => by omega
  | n + 1, fr, h, j, h1, h2 => by
    simp only [fI] at h
    split at h
    · omega
    · rename_i hp
      by_cases hj : j = fr
      · subst hj; simpa using hp
      · exact fI_none h j (by omega) (by omega)
abbrev nD (b : Nat → Nat) (fr n : Nat) : Int := fI (fun j => !isD (b j)) fr n
abbrev nM (b : Nat → Nat) (fr n : Nat) : Int := fI (fun j => isM (b j)) fr n
theorem nD_hit {b : Nat → Nat} {fr n : Nat} (h : ¬ (48 ≤ b fr ∧ b fr ≤ 57)) (hn : 0 < n) : nD b fr n = (fr : Int) := fI_hit (by simp [isD]; omega) hn
theorem nD_miss {b : Nat → Nat} {fr n : Nat} (h : 48 ≤ b fr ∧ b fr ≤ 57) (hn : 0 < n) : nD b fr n = nD b (fr + 1) (n - 1) := fI_miss (by simp [isD]; omega) hn
theorem nM_hit {b : Nat → Nat} {fr n : Nat} (h : 29 ≤ b fr ∧ b fr ≤ 31) (hn : 0 < n) : nM b fr n = (fr : Int) := fI_hit (by simp [isM]; omega) hn
theorem nM_miss {b : Nat → Nat} {fr n : Nat} (h : ¬ (29 ≤ b fr ∧ b fr ≤ 31)) (hn : 0 < n) : nM b fr n = nM b (fr + 1) (n - 1) := fI_miss (by simp [isM]; omega) hn
theorem nD_dig {b : Nat → Nat} {fr n : Nat} (h : nD b fr n = -1) (j : Nat) (h1 : fr ≤ j) (h2 : j < fr + n) : 48 ≤ b j ∧ b j ≤ 57 := by
  have := fI_none h j h1 h2
  simp [isD] at this
  exact this
theorem num3 {b : Nat → Nat} {fr : Nat} (h : ∀ j, fr ≤ j → j < fr + 3 → 48 ≤ b j ∧ b j ≤ 57) : 0 ≤ numI b fr 3 ∧ numI b fr 3 ≤ 999 := by
  have := h fr (by omega) (by omega); have := h (fr + 1) (by omega) (by omega); have := h (fr + 2) (by omega) (by omega)
  simp only [numI, Nat.add_zero]; omega
theorem num4 {b : Nat → Nat} {fr : Nat} (h : ∀ j, fr ≤ j → j < fr + 4 → 48 ≤ b j ∧ b j ≤ 57) : 0 ≤ numI b fr 4 ∧ numI b fr 4 ≤ 9999 := by
  have := h fr (by omega) (by omega); have := h (fr + 1) (by omega) (by omega); have := h (fr + 2) (by omega) (by omega); have := h (fr + 3) (by omega) (by omega)
  simp only [numI, Nat.add_zero]; omega
theorem num5 {b : Nat → Nat} {fr : Nat} (h : ∀ j, fr ≤ j → j < fr + 5 → 48 ≤ b j ∧ b j ≤ 57) : 0 ≤ numI b fr 5 ∧ numI b fr 5 ≤ 99999 := by
  have := h fr (by omega) (by omega); have := h (fr + 1) (by omega) (by omega); have := h (fr + 2) (by omega) (by omega); have := h (fr + 3) (by omega) (by omega); have := h (fr + 4) (by omega) (by omega)
  simp only [numI, Nat.add_zero]; omega
def wTot (b : Nat → Nat) : Int := if nD b 0 5 ≠ -1 then nD b 0 5 else if numI b 0 5 < 26 then 0 else -1
def wEnd (b : Nat → Nat) (last : Nat) : Int := if b last = 30 then -1 else (last : Int)
def wCtl (b : Nat → Nat) (fr last : Nat) : Int := if nM b fr (last - fr) ≠ -1 then nM b fr (last - fr) else wEnd b last
def badO (b : Nat → Nat) (last p : Nat) : Bool := isM (b p) && (b p != 31 || b (p - 1) == 31 || p + 1 == last)
theorem fO_hit {b : Nat → Nat} {last fr n : Nat} (h : 29 ≤ b fr ∧ b fr ≤ 31) (h2 : b fr ≠ 31 ∨ b (fr - 1) = 31 ∨ fr + 1 = last) (hn : 0 < n) : fI (badO b last) fr n = (fr : Int) := fI_hit (by simp [badO, isM]; omega) hn
theorem fO_miss {b : Nat → Nat} {last fr n : Nat} (h : ¬ (29 ≤ b fr ∧ b fr ≤ 31) ∨ ¬ (b fr ≠ 31 ∨ b (fr - 1) = 31 ∨ fr + 1 = last)) (hn : 0 < n) : fI (badO b last) fr n = fI (badO b last) (fr + 1) (n - 1) := fI_miss (by simp [badO, isM]; omega) hn
def wOth (b : Nat → Nat) (fr last : Nat) : Int := if nM b fr 2 ≠ -1 then nM b fr 2 else if fr + 2 < last ∧ b (fr + 2) ≠ 31 then ((fr + 2 : Nat) : Int) else if fI (badO b last) (fr + 2) (last - (fr + 2)) ≠ -1 then fI (badO b last) (fr + 2) (last - (fr + 2)) else wEnd b last
def wFix (b : Nat → Nat) : Int := if b 10 ≠ 50 then 10 else if b 11 ≠ 50 then 11 else if b 20 ≠ 52 then 20 else if b 21 ≠ 53 then 21 else -1
def wLead (b : Nat → Nat) (all : Nat) : Int := if wFix b ≠ -1 then wFix b else if nD b 12 5 ≠ -1 then nD b 12 5 else if 25 ≤ numI b 12 5 ∧ numI b 12 5 ≤ (all : Int) - 1 ∧ (numI b 12 5 - 25) % 12 = 0 then -1 else 12
def wRow (b : Nat → Nat) (row base all : Nat) : Int := if nD b row 12 ≠ -1 then nD b row 12 else
  if numI b (row + 3) 4 < 1 ∨ (9 < numI b row 3 ∧ numI b (row + 3) 4 < 3) ∨ (base : Int) + numI b (row + 7) 5 + numI b (row + 3) 4 > (all : Int) - 1 then ((row + 3 : Nat) : Int) else
  if numI b row 3 ≤ 9 then wCtl b (base + (numI b (row + 7) 5).toNat) (base + (numI b (row + 7) 5).toNat + (numI b (row + 3) 4).toNat - 1) else wOth b (base + (numI b (row + 7) 5).toNat) (base + (numI b (row + 7) 5).toNat + (numI b (row + 3) 4).toNat - 1)
def fRow (b : Nat → Nat) (base all : Nat) : Nat → Nat → Int
  | _, 0 => -1
  | r, n + 1 => if wRow b (24 + 12 * r) base all ≠ -1 then wRow b (24 + 12 * r) base all else fRow b base all (r + 1) n
theorem fRow_hit {b : Nat → Nat} {base all r n : Nat} (h : wRow b (24 + 12 * r) base all ≠ -1) (hn : 0 < n) : fRow b base all r n = wRow b (24 + 12 * r) base all := by
  cases n with
  | zero => omega
  | succ n => simp [fRow, h]
theorem fRow_miss {b : Nat → Nat} {base all r n : Nat} (h : wRow b (24 + 12 * r) base all = -1) (hn : 0 < n) : fRow b base all r n = fRow b base all (r + 1) (n - 1) := by
  cases n with
  | zero => omega
  | succ n => simp [fRow, h]
theorem fRow_zero {b : Nat → Nat} {base all r n : Nat} (hn : n = 0) : fRow b base all r n = -1 := by subst hn; rfl
def wRec (b : Nat → Nat) (all : Nat) : Int := if wLead b all ≠ -1 then wLead b all else
  if b ((numI b 12 5).toNat - 1) ≠ 30 then numI b 12 5 - 1 else if b (all - 1) ≠ 29 then (all : Int) - 1 else if 60 < (numI b 12 5 - 25) / 12 then 24 else
  fRow b (numI b 12 5).toNat all 0 ((numI b 12 5 - 25) / 12).toNat
theorem wFix_rng (b : Nat → Nat) : wFix b = -1 ∨ (10 ≤ wFix b ∧ wFix b ≤ 21) := by unfold wFix; (repeat' split) <;> omega
theorem wLead_ok {b : Nat → Nat} {all : Nat} (h : wLead b all = -1) : nD b 12 5 = -1 ∧ 25 ≤ numI b 12 5 ∧ numI b 12 5 ≤ (all : Int) - 1 ∧ (numI b 12 5 - 25) % 12 = 0 := by
  unfold wLead at h
  have := wFix_rng b
  split at h
  · omega
  · split at h
    · omega
    · split at h
      · rename_i h2 h3
        exact ⟨by omega, h3⟩
      · omega
theorem nD_zero {b : Nat → Nat} {fr n : Nat} (hn : n = 0) : nD b fr n = -1 := fI_zero hn
theorem nM_zero {b : Nat → Nat} {fr n : Nat} (hn : n = 0) : nM b fr n = -1 := fI_zero hn
theorem rowstep {b : Nat → Nat} {base all k n : Nat} {x y : Int} (hx : x = -1 ∧ fRow b base all 0 n = fRow b base all k (n - k) ∨ x ≠ -1 ∧ x = fRow b base all 0 n) (hx1 : x = -1) (hk : k < n) (hy : y = wRow b (24 + 12 * k) base all) : (y = -1 ∧ fRow b base all 0 n = fRow b base all (k + 1) (n - (k + 1))) ∨ (y ≠ -1 ∧ y = fRow b base all 0 n) := by
  rcases hx with ⟨_, h⟩ | ⟨h, _⟩
  · by_cases hy1 : y = -1
    · left
      refine ⟨hy1, ?_⟩
      rw [h, fRow_miss (by omega) (by omega), show n - k - 1 = n - (k + 1) by omega]
    · right
      refine ⟨hy1, ?_⟩
      rw [h, fRow_hit (by omega) (by omega), hy]
  · exact absurd hx1 h
theorem rowend {b : Nat → Nat} {base all k n : Nat} {x : Int} (h : x ≠ -1 ∨ n ≤ k) (hx : x = -1 ∧ fRow b base all 0 n = fRow b base all k (n - k) ∨ x ≠ -1 ∧ x = fRow b base all 0 n) : x = fRow b base all 0 n := by
  rcases hx with ⟨h1, h2⟩ | ⟨_, h2⟩
  · rw [h1, h2, fRow_zero (by omega)]
  · exact h2
end
section
/-! rows of bytes in arrays -/
theorem u8_of {x : Int32} {n : Nat} (h : x.toInt = (n : Int)) (hn : n < 256) : u8 x = n := by
  have := ti_ofN h
  subst this
  unfold u8
  rw [pk_tn (by omega)]
  omega
/-- the array's entries are bytes -/
def BF (f : Nat → Int32) : Prop := ∀ j, f j = sB (u8 (f j))
theorem BF_0 : BF (fun _ => 0) := fun _ => (by decide : (0 : Int32) = sB (u8 0))
theorem gd_l {a b : List Nat} {j : Nat} (h : j < a.length) : (a ++ b).getD j 0 = a.getD j 0 := by simp [List.getD, List.getElem?_append_left h]
theorem gd_r {a b : List Nat} {j : Nat} (h : a.length ≤ j) : (a ++ b).getD j 0 = b.getD (j - a.length) 0 := by simp [List.getD, List.getElem?_append_right h]
theorem gd_m {l : List Nat} {j : Nat} (h : j < l.length) : l.getD j 0 ∈ l := by simp [List.getD, h]
theorem gd_o {l : List Nat} {j : Nat} (h : l.length ≤ j) : l.getD j 0 = 0 := by simp [List.getD, h]
theorem sB_u8_sB (n : Nat) : sB (u8 (sB n)) = sB n := by
  have h : sB n = sB (n % 256) := by
    unfold sB
    have : (Int32.ofNat n).toInt8 = (Int32.ofNat (n % 256)).toInt8 := by
      apply Int8.toBitVec_inj.mp
      apply BitVec.eq_of_toNat_eq
      rw [Int32.toBitVec_toInt8, Int32.toBitVec_toInt8, BitVec.signExtend_eq_setWidth_of_le _ (by decide), BitVec.signExtend_eq_setWidth_of_le _ (by decide)]
      simp [Int32.toBitVec_ofNat]
    rw [this]
  rw [h, u8_sB (Nat.mod_lt _ (by decide))]
theorem BF_upd {f : Nat → Int32} (h : BF f) (k n : Nat) : BF (upd f k (sB n)) := fun j => by
  unfold upd
  split
  · exact (sB_u8_sB n).symm
  · exact h j
theorem BF_fit {f : Nat → Int32} (h : BF f) (j : Nat) : fits .byte (.int (f j)) = true := by
  rw [h j]; unfold sB; exact pk_fb _
/-- from place o on the array holds the bytes l -/
def Bs (f : Nat → Int32) (o : Nat) (l : List Nat) : Prop := ∀ j, j < l.length → f (o + j) = sB (l.getD j 0)
def B8 (l : List Nat) : Prop := ∀ x ∈ l, x < 256
theorem Bs_nil (f : Nat → Int32) (o : Nat) : Bs f o [] := fun j h => by simp at h
theorem Bs_snoc {f : Nat → Int32} {o : Nat} {l : List Nat} (h : Bs f o l) (c : Nat) : Bs (upd f (o + l.length) (sB c)) o (l ++ [c]) := by
  intro j hj
  simp only [List.length_append, List.length_cons, List.length_nil] at hj
  unfold upd
  by_cases e : j = l.length
  · subst e; simp
  · rw [if_neg (by omega), h j (by omega), gd_l (by omega)]
theorem Bs_set {f : Nat → Int32} {o : Nat} {l r : List Nat} {x : Nat} (h : Bs f o (l ++ x :: r)) (y : Nat) : Bs (upd f (o + l.length) (sB y)) o (l ++ y :: r) := by
  intro j hj
  simp only [List.length_append, List.length_cons] at hj
  unfold upd
  by_cases e : j = l.length
  · subst e; simp
  · rw [if_neg (by omega), h j (by simp only [List.length_append, List.length_cons]; omega)]
    by_cases e2 : j < l.length
    · rw [gd_l e2, gd_l e2]
    · rw [gd_r (by omega), gd_r (by omega)]
      obtain ⟨m, hm⟩ : ∃ m, j - l.length = m + 1 := ⟨j - l.length - 1, by omega⟩
      rw [hm]; simp
theorem Bs_out {f : Nat → Int32} {o : Nat} {l : List Nat} (h : Bs f o l) {k : Nat} {v : Int32} (hk : k < o ∨ o + l.length ≤ k) : Bs (upd f k v) o l := by
  intro j hj
  unfold upd
  rw [if_neg (by omega)]
  exact h j hj
theorem Bs_at {f : Nat → Int32} {o : Nat} {l : List Nat} (h : Bs f o l) (h8 : B8 l) {j : Nat} (hj : j < l.length) : u8 (f (o + j)) = l.getD j 0 := by
  rw [h j hj, u8_sB (h8 _ (gd_m hj))]
theorem Bs_ext {f g : Nat → Int32} {o o' : Nat} {l : List Nat} (h : Bs f o l) (e : ∀ j, j < l.length → g (o' + j) = f (o + j)) : Bs g o' l := fun j hj => by rw [e j hj]; exact h j hj
theorem B8_nil : B8 [] := fun x h => by simp at h
theorem B8_app {a b : List Nat} (ha : B8 a) (hb : B8 b) : B8 (a ++ b) := fun x h => (List.mem_append.mp h).elim (ha x) (hb x)
theorem B8_snoc {a : List Nat} {c : Nat} (ha : B8 a) (hc : c < 256) : B8 (a ++ [c]) := B8_app ha (fun x h => by simp at h; omega)
theorem B8_get {l : List Nat} (h : B8 l) (j : Nat) : l.getD j 0 < 256 := by
  by_cases hj : j < l.length
  · exact h _ (gd_m hj)
  · rw [gd_o (by omega)]; omega
/-- the last m digits of n -/
def dg (n : Nat) : Nat → List Nat
  | 0 => []
  | m + 1 => (48 + n / 10 ^ m % 10) :: dg n m
theorem dg_len (n : Nat) : ∀ m, (dg n m).length = m
  | 0 => rfl
  | m + 1 => by simp [dg, dg_len n m]
theorem dg_B8 (n : Nat) : ∀ m, B8 (dg n m)
  | 0 => B8_nil
  | m + 1 => fun x h => by
    rcases List.mem_cons.mp h with h | h
    · omega
    · exact dg_B8 n m x h
section GY
variable {E : GE} {g : Cf} {cc : ByteArray} {own : String} {ret : Option FieldType} {ws : va_W} {cells slots pc : Nat} {lv : List (Nat × Value)} {st : List Value} {a a0 : Nat}
theorem g_copyB (C : Cx E g cc own ret) {D mcT msT : Nat} (r : RF g D mcT msT) (hD2 : 2 ≤ D) {index : Nat} (hlink : Cond.methodLink own index arraycopyName ∈ GW) (hnat : Cond.native arraycopyName ∈ GW) (hstat : Cond.static arraycopyName ∈ GW) (hini : Cond.initialized "java/lang/System" ∈ GW) (d : decode cc pc = .ok (.invokestatic index, 3))
    (q0 q1 : Nat) {n0 n1 : Nat} {f f1 : Nat → Int32} (h0 : ws[q0]? = some (a0, aB E n0 f)) (h1 : ws[q1]? = some (a, aB E n1 f1)) {sp dp n : Int32} (hsp : sp.toInt = 0) (hdp : dp.toInt = 0) (N : Nat) (hN : n.toInt = (N : Int)) (hn0 : N ≤ n0) (hn1 : N ≤ n1) (hf : BF f) (hst : (st.map fun v => v.category).sum ≤ 8)
    (kk : G E g (ws.set q1 (a, aB E n1 (va_cpy f f1 0 0 N))) cells slots (pc + 3) lv st) : G E g ws cells slots pc lv (.int n :: .int dp :: .ref a :: .int sp :: .ref a0 :: st) := by
  intro H locs ls hl hP hD hS
  have z0 : (0 : Int32).toInt = 0 := rfl
  have e0 : sp.toNatClampNeg = 0 := ti_clamp (n := 0) (by rw [hsp]; rfl)
  have e1 : dp.toNatClampNeg = 0 := ti_clamp (n := 0) (by rw [hdp]; rfl)
  have e2 : n.toNatClampNeg = N := ti_clamp hN
  refine va_copyi (D := E.1) C.1 C.2.1 (C.2.2.1.trans hl.1.symm) C.2.2.2.1 (C.wd hlink) (C.wd hnat) (C.wd hstat) (C.wd hini) C.2.2.2.2.2.1.1 hP hD hS q0 q1 0 0 h0 h1 rfl rfl rfl
    (fun q => by have := Int32.lt_iff_toInt_lt.mp q; omega) (fun q => by have := Int32.lt_iff_toInt_lt.mp q; omega) (fun q => by have := Int32.lt_iff_toInt_lt.mp q; omega) (by rw [e0, e2]; omega) (by rw [e1, e2]; omega) (fun i _ => BF_fit hf _) (by have := r.1; omega)
    (by have := r.2.2.2; have h9 : nativeFrameWords "java/lang/System" "arraycopy" 5 + 11 ≤ 40 := by decide
        omega) d (fun H1 locs1 hP1 hD1 hS1 => ?_)
  rw [e0, e1, e2] at hP1 hD1
  exact kk H1 locs1 ls hl hP1 hD1 hS1
end GY
theorem cpy_Bs {f f1 : Nat → Int32} {N : Nat} {l : List Nat} (h : Bs f 0 l) (hl : l.length ≤ N) : Bs (va_cpy f f1 0 0 N) 0 l := by
  intro j hj
  unfold va_cpy
  rw [if_pos (by omega)]
  simpa using h j hj
theorem cpy_BF {f f1 : Nat → Int32} {N : Nat} (h : BF f) (h1 : BF f1) : BF (va_cpy f f1 0 0 N) := by
  intro j
  unfold va_cpy
  split
  · exact h _
  · exact h1 _
theorem fill_step (k : Nat) (v : Int32) (f : Nat → Int32) : upd (fun j => if j < k then v else f j) k v = fun j => if j < k + 1 then v else f j := by
  funext j
  unfold upd
  by_cases h : j = k
  · subst h; simp
  · rw [if_neg h]; dsimp only
    by_cases h2 : j < k
    · rw [if_pos h2, if_pos (by omega)]
    · rw [if_neg h2, if_neg (by omega)]
theorem u8_i2b (x : Int32) : u8 (sB (u8 x)) = u8 x := u8_sB (u8_lt x)
theorem kw_max : Cond.static Lib.Math.max.name ∈ GW ∧ Cond.initialized "java/lang/Math" ∈ GW ∧ Cond.code Lib.Math.max.name Lib.Math.max.code 2 (some .int) ∈ GW := ⟨kw2_76, kw1_6, kw2_77⟩
theorem kw_min : Cond.static Lib.Math.min.name ∈ GW ∧ Cond.initialized "java/lang/Math" ∈ GW ∧ Cond.code Lib.Math.min.name Lib.Math.min.code 2 (some .int) ∈ GW := ⟨kw1_196, kw1_6, kw1_197⟩
theorem kw_maxX2 : Cond.methodLink RX2 17 Lib.Math.max.name ∈ GW := kw2_75
theorem kw_minJ7 : Cond.methodLink RJ7 304 Lib.Math.min.name ∈ GW := kw1_225
theorem kw_minX3 : Cond.methodLink RX3 170 Lib.Math.min.name ∈ GW := kw1_195
theorem g_mmax {E : GE} {g : Cf} {cc : ByteArray} {own : String} {ret : Option FieldType} {ws : va_W} {cells slots pc : Nat} {lv : List (Nat × Value)} {st : List Value} (C : Cx E g cc own ret) {D mcT msT : Nat} (r : RF g D mcT msT) (hD1 : 1 ≤ D) {index : Nat} (hw : Cond.methodLink own index Lib.Math.max.name ∈ GW) {x y : Int32} (d : decode cc pc = .ok (.invokestatic index, 3)) (hst : (st.map fun v => v.category).sum ≤ 8) (hc : cells ≤ mcT) (hs : slots ≤ msT) (kk : ∀ z : Int32, (x.toInt ≤ y.toInt ∧ z.toInt = y.toInt) ∨ (y.toInt ≤ x.toInt ∧ z.toInt = x.toInt) → G E g ws cells slots (pc + 3) lv (.int z :: st)) : G E g ws cells slots pc lv (.int y :: .int x :: st) :=
  fun H locs ls hl hP hD hS => va_mmax C.1 C.2.1 (C.2.2.1.trans hl.1.symm) C.2.2.2.1 (C.wd hw) (C.wd kw_max.1) (C.wd kw_max.2.1) (C.wd kw_max.2.2) (by have := r.1; omega) (by have := r.2.2.2; omega) (Nat.le_trans hc r.2.1) (Nat.le_trans hs r.2.2.1) d (kk _ (by
    split
    · rename_i h; have := Int32.lt_iff_toInt_lt.mp h; omega
    · rename_i h; have : ¬ _ := fun q => h (Int32.lt_iff_toInt_lt.mpr q); omega) H locs ls hl hP hD hS)
theorem g_mmin {E : GE} {g : Cf} {cc : ByteArray} {own : String} {ret : Option FieldType} {ws : va_W} {cells slots pc : Nat} {lv : List (Nat × Value)} {st : List Value} (C : Cx E g cc own ret) {D mcT msT : Nat} (r : RF g D mcT msT) (hD1 : 1 ≤ D) {index : Nat} (hw : Cond.methodLink own index Lib.Math.min.name ∈ GW) {x y : Int32} (d : decode cc pc = .ok (.invokestatic index, 3)) (hst : (st.map fun v => v.category).sum ≤ 8) (hc : cells ≤ mcT) (hs : slots ≤ msT) (kk : ∀ z : Int32, (x.toInt ≤ y.toInt ∧ z.toInt = x.toInt) ∨ (y.toInt ≤ x.toInt ∧ z.toInt = y.toInt) → G E g ws cells slots (pc + 3) lv (.int z :: st)) : G E g ws cells slots pc lv (.int y :: .int x :: st) :=
  fun H locs ls hl hP hD hS => va_mmin C.1 C.2.1 (C.2.2.1.trans hl.1.symm) C.2.2.2.1 (C.wd hw) (C.wd kw_min.1) (C.wd kw_min.2.1) (C.wd kw_min.2.2) (by have := r.1; omega) (by have := r.2.2.2; omega) (Nat.le_trans hc r.2.1) (Nat.le_trans hs r.2.2.1) d (kk _ (by
    split
    · rename_i h; have := Int32.lt_iff_toInt_lt.mp h; omega
    · rename_i h; have : ¬ _ := fun q => h (Int32.lt_iff_toInt_lt.mpr q); omega) H locs ls hl hP hD hS)
theorem dg_step {f : Nat → Int32} {o : List Nat} {j k num : Nat} (h : Bs f 0 (o ++ List.replicate (j + 1) 48 ++ dg num (k - (j + 1)))) (hj : j + 1 ≤ k) {x57 x56 x50 x55 rs : Int32} (e57 : x57 = sB (u8 x56)) (e56 : x56.toInt = x50.toInt + x55.toInt) (e50 : x50.toInt = 48) (e55 : x55.toInt = rs.toInt % 10) (hr : rs.toInt = ((num / 10 ^ (k - (j + 1)) : Nat) : Int)) : Bs (upd f (o.length + (j + 1) - 1) (sB (u8 x57))) 0 (o ++ List.replicate (j + 1 - 1) 48 ++ dg num (k - (j + 1 - 1))) := by
  have e : x56.toInt = ((48 + num / 10 ^ (k - (j + 1)) % 10 : Nat) : Int) := by rw [e56, e50, e55, hr]; omega
  have h2 : u8 x57 = 48 + num / 10 ^ (k - (j + 1)) % 10 := by rw [e57, u8_i2b]; exact u8_of e (by omega)
  rw [h2, show j + 1 - 1 = j by omega, show k - j = (k - (j + 1)) + 1 by omega]
  rw [List.replicate_succ', ← List.append_assoc, List.append_assoc (o ++ List.replicate j 48)] at h
  have h3 := Bs_set (l := o ++ List.replicate j 48) (x := 48) (r := dg num (k - (j + 1))) h (48 + num / 10 ^ (k - (j + 1)) % 10)
  have h4 : 0 + (o ++ List.replicate j 48).length = o.length + (j + 1) - 1 := by simp
  rw [h4] at h3
  exact h3
theorem dg_end {f : Nat → Int32} {o : List Nat} {j k num : Nat} (h : Bs f 0 (o ++ List.replicate j 48 ++ dg num (k - j))) (hj : j = 0) : Bs f 0 (o ++ dg num k) := by
  subst hj; simpa using h
end
section
/-! a field's bytes -/
def gI (l : List Nat) (i : Int) : Int := if 0 ≤ i ∧ i < (l.length : Int) then (l.getD i.toNat 0 : Int) else -1
def c31 (l : List Nat) : Nat := l.count 31
theorem c31_snoc (l : List Nat) (c : Nat) : c31 (l ++ [c]) = c31 l + (if c = 31 then 1 else 0) := by
  unfold c31
  rw [List.count_append]
  by_cases h : c = 31 <;> simp [h, List.count_cons]
theorem c31_le (l : List Nat) : c31 l ≤ l.length := List.count_le_length
/-- behind the code of the i-th subfield with that code: from place p on, s of them lie ahead; n places to look at -/
def sIx (bd : List Nat) (code i : Int) : Nat → Nat → Int → Int
  | 0, _, _ => -1
  | n + 1, p, s => if bd.getD p 0 = 31 ∧ (bd.getD (p + 1) 0 : Int) = code then (if s = i then (p : Int) + 2 else sIx bd code i n (p + 1) (s + 1)) else sIx bd code i n (p + 1) s
theorem sIx_no {bd : List Nat} {code i : Int} {n p : Nat} {s : Int} (h : ¬ (bd.getD p 0 = 31 ∧ (bd.getD (p + 1) 0 : Int) = code)) (hn : 0 < n) : sIx bd code i n p s = sIx bd code i (n - 1) (p + 1) s := by
  cases n with
  | zero => omega
  | succ n => simp only [sIx]; rw [if_neg h]; rfl
theorem sIx_go {bd : List Nat} {code i : Int} {n p : Nat} {s : Int} (h : bd.getD p 0 = 31 ∧ (bd.getD (p + 1) 0 : Int) = code) (h2 : s ≠ i) (hn : 0 < n) : sIx bd code i n p s = sIx bd code i (n - 1) (p + 1) (s + 1) := by
  cases n with
  | zero => omega
  | succ n => simp only [sIx]; rw [if_pos h, if_neg h2]; rfl
theorem sIx_yes {bd : List Nat} {code i : Int} {n p : Nat} {s : Int} (h : bd.getD p 0 = 31 ∧ (bd.getD (p + 1) 0 : Int) = code) (h2 : s = i) (hn : 0 < n) : sIx bd code i n p s = (p : Int) + 2 := by
  cases n with
  | zero => omega
  | succ n => simp only [sIx]; rw [if_pos h, if_pos h2]
theorem sIx_zero {bd : List Nat} {code i : Int} {n p : Nat} {s : Int} (hn : n = 0) : sIx bd code i n p s = -1 := by subst hn; rfl
theorem sIx_rng {bd : List Nat} {code i : Int} : ∀ n p s, sIx bd code i n p s = -1 ∨ ((p : Int) + 2 ≤ sIx bd code i n p s ∧ sIx bd code i n p s ≤ (p : Int) + n + 1)
  | 0, _, _ => Or.inl rfl
  | n + 1, p, s => by
    simp only [sIx]
    split
    · split
      · right; omega
      · have := sIx_rng (bd := bd) (code := code) (i := i) n (p + 1) (s + 1); omega
    · have := sIx_rng (bd := bd) (code := code) (i := i) n (p + 1) s; omega
def sEn (bd : List Nat) : Nat → Nat → Nat
  | 0, p => p
  | n + 1, p => if bd.getD p 0 = 31 then p else sEn bd n (p + 1)
theorem sEn_hit {bd : List Nat} {n p : Nat} (h : bd.getD p 0 = 31) (hn : 0 < n) : sEn bd n p = p := by
  cases n with
  | zero => omega
  | succ n => simp only [sEn]; rw [if_pos h]
theorem sEn_miss {bd : List Nat} {n p : Nat} (h : bd.getD p 0 ≠ 31) (hn : 0 < n) : sEn bd n p = sEn bd (n - 1) (p + 1) := by
  cases n with
  | zero => omega
  | succ n => simp only [sEn]; rw [if_neg h]; rfl
theorem sEn_zero {bd : List Nat} {n p : Nat} (hn : n = 0) : sEn bd n p = p := by subst hn; rfl
theorem sEn_rng {bd : List Nat} : ∀ n p, p ≤ sEn bd n p ∧ sEn bd n p ≤ p + n
  | 0, _ => by simp [sEn]
  | n + 1, p => by
    simp only [sEn]
    split
    · omega
    · have := sEn_rng (bd := bd) n (p + 1); omega
/-- the code of the last subfield in the first p places, or -1 -/
def lCn (bd : List Nat) : Nat → Int
  | 0 => -1
  | p + 1 => if bd.getD p 0 = 31 then gI bd ((p : Int) + 1) else lCn bd p
theorem gI_in {l : List Nat} {k : Nat} (h : k < l.length) : gI l (k : Int) = (l.getD k 0 : Int) := by
  unfold gI; rw [if_pos (by omega)]; simp
theorem gI_out {l : List Nat} {i : Int} (h : ¬ (0 ≤ i ∧ i < (l.length : Int))) : gI l i = -1 := by unfold gI; rw [if_neg h]
theorem ap_B {f : Nat → Int32} {bd : List Nat} {x y : Int32} (h : Bs f 0 bd) (e : y = sB (u8 x)) : Bs (upd f (0 + bd.length) (sB (u8 y))) 0 (bd ++ [u8 x]) := by
  rw [e, sB_u8_sB]; exact Bs_snoc h (u8 x)
theorem ap_F {f : Nat → Int32} {k : Nat} {x y : Int32} (h : BF f) (_e : y = sB (u8 x)) : BF (upd f k (sB (u8 y))) := BF_upd h _ _
theorem ap_c {bd : List Nat} {x su u : Int32} (hsu : su.toInt = (c31 bd : Int)) (h1 : ¬ x.toInt = 31 → u.toInt = su.toInt) (h2 : x.toInt = 31 → u.toInt = su.toInt + 1) : (0 ≤ x.toInt ∧ x.toInt < 256) → u.toInt = (c31 (bd ++ [u8 x]) : Int) := by
  intro hx
  have h3 : u8 x = x.toInt.toNat := u8_of (n := x.toInt.toNat) (by omega) (by omega)
  rw [c31_snoc, h3]
  by_cases h : x.toInt = 31
  · rw [if_pos (by omega), h2 h]; omega
  · rw [if_neg (by omega), h1 h]; omega
theorem nb_sB {x y : Int32} {n : Nat} (e : x = y) (h : y = sB n) : narrow .byte (.int x) = .int x := by rw [e, h]; unfold sB; exact pk_nb _
end
section
set_option maxHeartbeats 1000000 in
set_option maxRecDepth 10000 in
theorem c_X3_isMark (l : Launch) (E : GE) (x : Int32)  : Ctr l E yX3_isMark cX3_isMark 1 (some .boolean) 0 (0) (0) [.int x] [] (oI (fun r => (r.toInt = 1 ∧ 29 ≤ x.toInt ∧ x.toInt ≤ 31) ∨ (r.toInt = 0 ∧ ¬ (29 ≤ x.toInt ∧ x.toInt ≤ 31))) []) := by
  refine Ctr.intro (by decide) (Nat.le_of_ble_eq_true rfl) (fun g hgl hN C r F hi => ?_)
  subst hgl
  change G E g [] 0 0 0 [(0, .int x)] []
  refine g_iload_n C dX3_isMark_0 0 rfl ?_
  refine g_bipush C dX3_isMark_1 (by decide) (fun x1 e1 => ?_)
  refine g_icmp_lt C 16 dX3_isMark_3 (by decide) (fun c3 => ?_) (fun c3 => ?_)
  · refine g_iconst C dX3_isMark_16 (by decide) (fun x16 e16 => ?_)
    exact g_iret C F dX3_isMark_17 rfl (nz_b x16 (by omega)) (by omega) (by omega) (by exact ⟨_, rfl, by omega, rfl⟩)
  · refine g_iload_n C dX3_isMark_6 0 rfl ?_
    refine g_bipush C dX3_isMark_7 (by decide) (fun x7 e7 => ?_)
    refine g_icmp_gt C 16 dX3_isMark_9 (by decide) (fun c9 => ?_) (fun c9 => ?_)
    · refine g_iconst C dX3_isMark_16 (by decide) (fun x16 e16 => ?_)
      exact g_iret C F dX3_isMark_17 rfl (nz_b x16 (by omega)) (by omega) (by omega) (by exact ⟨_, rfl, by omega, rfl⟩)
    · refine g_iconst C dX3_isMark_12 (by decide) (fun x12 e12 => ?_)
      refine g_goto C 17 dX3_isMark_13 (by decide) ?_
      exact g_iret C F dX3_isMark_17 rfl (nz_b x12 (by omega)) (by omega) (by omega) (by exact ⟨_, rfl, by omega, rfl⟩)
set_option maxHeartbeats 1000000 in
set_option maxRecDepth 10000 in
theorem c_X3_isDigit (l : Launch) (E : GE) (x : Int32)  : Ctr l E yX3_isDigit cX3_isDigit 1 (some .boolean) 0 (0) (0) [.int x] [] (oI (fun r => (r.toInt = 1 ∧ 48 ≤ x.toInt ∧ x.toInt ≤ 57) ∨ (r.toInt = 0 ∧ ¬ (48 ≤ x.toInt ∧ x.toInt ≤ 57))) []) := by
  refine Ctr.intro (by decide) (Nat.le_of_ble_eq_true rfl) (fun g hgl hN C r F hi => ?_)
  subst hgl
  change G E g [] 0 0 0 [(0, .int x)] []
  refine g_iload_n C dX3_isDigit_0 0 rfl ?_
  refine g_bipush C dX3_isDigit_1 (by decide) (fun x1 e1 => ?_)
  refine g_icmp_lt C 16 dX3_isDigit_3 (by decide) (fun c3 => ?_) (fun c3 => ?_)
  · refine g_iconst C dX3_isDigit_16 (by decide) (fun x16 e16 => ?_)
    exact g_iret C F dX3_isDigit_17 rfl (nz_b x16 (by omega)) (by omega) (by omega) (by exact ⟨_, rfl, by omega, rfl⟩)
  · refine g_iload_n C dX3_isDigit_6 0 rfl ?_
    refine g_bipush C dX3_isDigit_7 (by decide) (fun x7 e7 => ?_)
    refine g_icmp_gt C 16 dX3_isDigit_9 (by decide) (fun c9 => ?_) (fun c9 => ?_)
    · refine g_iconst C dX3_isDigit_16 (by decide) (fun x16 e16 => ?_)
      exact g_iret C F dX3_isDigit_17 rfl (nz_b x16 (by omega)) (by omega) (by omega) (by exact ⟨_, rfl, by omega, rfl⟩)
    · refine g_iconst C dX3_isDigit_12 (by decide) (fun x12 e12 => ?_)
      refine g_goto C 17 dX3_isDigit_13 (by decide) ?_
      exact g_iret C F dX3_isDigit_17 rfl (nz_b x12 (by omega)) (by omega) (by omega) (by exact ⟨_, rfl, by omega, rfl⟩)
set_option maxHeartbeats 1000000 in
set_option maxRecDepth 10000 in
theorem c_X3_isControl (l : Launch) (E : GE) (x : Int32)  : Ctr l E yX3_isControl cX3_isControl 1 (some .boolean) 0 (0) (0) [.int x] [] (oI (fun r => (r.toInt = 1 ∧ x.toInt ≤ 9) ∨ (r.toInt = 0 ∧ 9 < x.toInt)) []) := by
  refine Ctr.intro (by decide) (Nat.le_of_ble_eq_true rfl) (fun g hgl hN C r F hi => ?_)
  subst hgl
  change G E g [] 0 0 0 [(0, .int x)] []
  refine g_iload_n C dX3_isControl_0 0 rfl ?_
  refine g_bipush C dX3_isControl_1 (by decide) (fun x1 e1 => ?_)
  refine g_icmp_gt C 10 dX3_isControl_3 (by decide) (fun c3 => ?_) (fun c3 => ?_)
  · refine g_iconst C dX3_isControl_10 (by decide) (fun x10 e10 => ?_)
    exact g_iret C F dX3_isControl_11 rfl (nz_b x10 (by omega)) (by omega) (by omega) (by exact ⟨_, rfl, by omega, rfl⟩)
  · refine g_iconst C dX3_isControl_6 (by decide) (fun x6 e6 => ?_)
    refine g_goto C 11 dX3_isControl_7 (by decide) ?_
    exact g_iret C F dX3_isControl_11 rfl (nz_b x6 (by omega)) (by omega) (by omega) (by exact ⟨_, rfl, by omega, rfl⟩)
set_option maxHeartbeats 1000000 in
theorem c_X3_fixedByte (l : Launch) (E : GE) (x : Int32) : Ctr l E yX3_fixedByte cX3_fixedByte 1 (some .int) 0 (0) (0) [.int x] [] (oI (fun r => ((x.toInt = 10 ∨ x.toInt = 11) ∧ r.toInt = 50) ∨ (x.toInt = 20 ∧ r.toInt = 52) ∨ (x.toInt = 21 ∧ r.toInt = 53) ∨ (¬ (x.toInt = 10 ∨ x.toInt = 11 ∨ x.toInt = 20 ∨ x.toInt = 21) ∧ r.toInt = -1)) []) := by
  refine Ctr.intro (by decide) (Nat.le_of_ble_eq_true rfl) (fun g hgl hN C r F hi => ?_)
  subst hgl
  change G E g [] 0 0 0 [(0, .int x)] []
  refine g_iload_n C dX3_fixedByte_0 0 rfl ?_
  by_cases h10 : x.toInt = 10
  · refine g_lookup C 44 dX3_fixedByte_1 (by decide) (off := 43) (by rw [h10]; rfl) (by decide) ?_
    refine g_bipush C dX3_fixedByte_44 (by decide) (fun x44 e44 => ?_)
    exact g_iret C F dX3_fixedByte_46 rfl rfl (by omega) (by omega) ⟨_, rfl, by omega, rfl⟩
  by_cases h11 : x.toInt = 11
  · refine g_lookup C 44 dX3_fixedByte_1 (by decide) (off := 43) (by rw [h11]; rfl) (by decide) ?_
    refine g_bipush C dX3_fixedByte_44 (by decide) (fun x44 e44 => ?_)
    exact g_iret C F dX3_fixedByte_46 rfl rfl (by omega) (by omega) ⟨_, rfl, by omega, rfl⟩
  by_cases h20 : x.toInt = 20
  · refine g_lookup C 47 dX3_fixedByte_1 (by decide) (off := 46) (by rw [h20]; rfl) (by decide) ?_
    refine g_bipush C dX3_fixedByte_47 (by decide) (fun x44 e44 => ?_)
    exact g_iret C F dX3_fixedByte_49 rfl rfl (by omega) (by omega) ⟨_, rfl, by omega, rfl⟩
  by_cases h21 : x.toInt = 21
  · refine g_lookup C 50 dX3_fixedByte_1 (by decide) (off := 49) (by rw [h21]; rfl) (by decide) ?_
    refine g_bipush C dX3_fixedByte_50 (by decide) (fun x44 e44 => ?_)
    exact g_iret C F dX3_fixedByte_52 rfl rfl (by omega) (by omega) ⟨_, rfl, by omega, rfl⟩
  refine g_lookup C 53 dX3_fixedByte_1 (by decide) (off := 52) (by simp [Op.lookupswitch.offset, h10, h11, h20, h21, Ne.symm h10, Ne.symm h11, Ne.symm h20, Ne.symm h21]) (by decide) ?_
  refine g_iconst C dX3_fixedByte_53 (by decide) (fun x44 e44 => ?_)
  exact g_iret C F dX3_fixedByte_54 rfl rfl (by omega) (by omega) ⟨_, rfl, by omega, rfl⟩
set_option maxHeartbeats 1000000 in
set_option maxRecDepth 10000 in
theorem c_X1_left (l : Launch) (E : GE) (h b : Nat) (f : Nat → Int32) (sz pl : Int32) (S P : Nat)  (hS : sz.toInt = (S : Int)) (hP : pl.toInt = (P : Int)) (hPS : P ≤ S) (hSm : S ≤ 1500) : Ctr l E yX1_left cX1_left 1 (some .int) 0 (0) (0) [.ref h] [(h, .inr (3, [.ref b, .int sz, .int pl])), (b, aB E (1500) (f))] (oI (fun r => r.toInt = ((S - P : Nat) : Int)) [(h, .inr (3, [.ref b, .int sz, .int pl])), (b, aB E (1500) (f))]) := by
  refine Ctr.intro (by decide) (Nat.le_of_ble_eq_true rfl) (fun g hgl hN C r F hi => ?_)
  subst hgl
  have hb8 := lk_lt f P
  change G E g [(h, .inr (3, [.ref b, .int sz, .int pl])), (b, aB E (1500) (f))] 0 0 0 [(0, .ref h)] []
  refine g_aload_n C dX1_left_0 0 rfl ?_
  refine gf_X1_15 C 0 rfl rfl dX1_left_1 ?_
  refine g_aload_n C dX1_left_4 0 rfl ?_
  refine gf_X1_19 C 0 rfl rfl dX1_left_5 ?_
  refine g_isub C dX1_left_8 (by omega) (fun x8 e8 => ?_)
  exact g_iret C F dX1_left_9 rfl rfl (by omega) (by omega) (by exact ⟨_, rfl, by omega, rfl⟩)
set_option maxHeartbeats 1000000 in
set_option maxRecDepth 10000 in
theorem c_X1_at (l : Launch) (E : GE) (h b : Nat) (f : Nat → Int32) (sz pl : Int32) (S P : Nat) (p : Int32) (hS : sz.toInt = (S : Int)) (hP : pl.toInt = (P : Int)) (hPS : P ≤ S) (hSm : S ≤ 1500) : Ctr l E yX1_at cX1_at 2 (some .int) 0 (0) (0) [.ref h, .int p] [(h, .inr (3, [.ref b, .int sz, .int pl])), (b, aB E (1500) (f))] (oI (fun r => (0 ≤ p.toInt ∧ p.toInt < sz.toInt - pl.toInt ∧ r.toInt = (lk f P p.toInt.toNat : Int)) ∨ (¬ (0 ≤ p.toInt ∧ p.toInt < sz.toInt - pl.toInt) ∧ r.toInt = -1)) [(h, .inr (3, [.ref b, .int sz, .int pl])), (b, aB E (1500) (f))]) := by
  refine Ctr.intro (by decide) (Nat.le_of_ble_eq_true rfl) (fun g hgl hN C r F hi => ?_)
  subst hgl
  change G E g [(h, .inr (3, [.ref b, .int sz, .int pl])), (b, aB E (1500) (f))] 0 0 0 [(0, .ref h), (1, .int p)] []
  refine g_iload_n C dX1_at_0 1 rfl ?_
  refine g_if_lt C 17 dX1_at_1 (by decide) (fun c1 => ?_) (fun c1 => ?_)
  · refine g_iconst C dX1_at_17 (by decide) (fun x17 e17 => ?_)
    refine g_goto C 36 dX1_at_18 (by decide) ?_
    exact g_iret C F dX1_at_36 rfl rfl (by omega) (by omega) (by first | exact ⟨_, rfl, by omega, rfl⟩ | exact ⟨_, rfl, Or.inl ⟨by omega, by omega, by rw [e35, e31]; rfl⟩, rfl⟩)
  · refine g_iload_n C dX1_at_4 1 rfl ?_
    refine g_aload_n C dX1_at_5 0 rfl ?_
    refine gf_X1_15 C 0 rfl rfl dX1_at_6 ?_
    refine g_aload_n C dX1_at_9 0 rfl ?_
    refine gf_X1_19 C 0 rfl rfl dX1_at_10 ?_
    refine g_isub C dX1_at_13 (by omega) (fun x13 e13 => ?_)
    refine g_icmp_lt C 21 dX1_at_14 (by decide) (fun c14 => ?_) (fun c14 => ?_)
    · refine g_aload_n C dX1_at_21 0 rfl ?_
      refine gf_X1_9 C 0 rfl rfl dX1_at_22 ?_
      refine g_aload_n C dX1_at_25 0 rfl ?_
      refine gf_X1_19 C 0 rfl rfl dX1_at_26 ?_
      refine g_iload_n C dX1_at_29 1 rfl ?_
      refine g_iadd C dX1_at_30 (by omega) (fun x30 e30 => ?_)
      refine g_baload C 1 rfl dX1_at_31 (P + p.toInt.toNat) (by omega) (by omega) (fun x31 e31 => ?_)
      refine g_sipush C dX1_at_32 (by decide) (fun x32 e32 => ?_)
      refine g_iand255 C dX1_at_35 e32 (fun x35 e35 l35 => ?_)
      exact g_iret C F dX1_at_36 rfl rfl (by omega) (by omega) (by first | exact ⟨_, rfl, by omega, rfl⟩ | exact ⟨_, rfl, Or.inl ⟨by omega, by omega, by rw [e35, e31]; rfl⟩, rfl⟩)
    · refine g_iconst C dX1_at_17 (by decide) (fun x17 e17 => ?_)
      refine g_goto C 36 dX1_at_18 (by decide) ?_
      exact g_iret C F dX1_at_36 rfl rfl (by omega) (by omega) (by first | exact ⟨_, rfl, by omega, rfl⟩ | exact ⟨_, rfl, Or.inl ⟨by omega, by omega, by rw [e35, e31]; rfl⟩, rfl⟩)
theorem c_X1_at' (l : Launch) (E : GE) (h b : Nat) (f : Nat → Int32) (sz pl : Int32) (S P : Nat) (p : Int32) (k : Nat) (hS : sz.toInt = (S : Int)) (hP : pl.toInt = (P : Int)) (hPS : P ≤ S) (hSm : S ≤ 1500) (hk : p.toInt = (k : Int)) (hl : k < S - P) : Ctr l E yX1_at cX1_at 2 (some .int) 0 (0) (0) [.ref h, .int p] [(h, .inr (3, [.ref b, .int sz, .int pl])), (b, aB E (1500) (f))] (oI (fun r => r.toInt = (lk f P k : Int)) [(h, .inr (3, [.ref b, .int sz, .int pl])), (b, aB E (1500) (f))]) :=
  fun s => Met.post (c_X1_at l E h b f sz pl S P p hS hP hPS hSm s) (by
    rintro v w ⟨r, rfl, hr, rfl⟩
    refine ⟨r, rfl, ?_, rfl⟩
    have : p.toInt.toNat = k := by omega
    rw [this] at hr
    omega)
set_option maxHeartbeats 1000000 in
set_option maxRecDepth 10000 in
theorem c_X1_number (l : Launch) (E : GE) (h b : Nat) (f : Nat → Int32) (sz pl : Int32) (S P : Nat) (x y : Int32) (fr dg : Nat) (hS : sz.toInt = (S : Int)) (hP : pl.toInt = (P : Int)) (hPS : P ≤ S) (hSm : S ≤ 1500) (hx : x.toInt = (fr : Int)) (hy : y.toInt = (dg : Int)) (hd : dg ≤ 5) (hl : fr + dg ≤ S - P) : Ctr l E yX1_number cX1_number 5 (some .int) 1 (0) (0) [.ref h, .int x, .int y] [(h, .inr (3, [.ref b, .int sz, .int pl])), (b, aB E (1500) (f))] (oI (fun r => r.toInt = numI (lk f P) fr dg) [(h, .inr (3, [.ref b, .int sz, .int pl])), (b, aB E (1500) (f))]) := by
  refine Ctr.intro (by decide) (Nat.le_of_ble_eq_true rfl) (fun g hgl hN C r F hi => ?_)
  subst hgl
  have hb8 := lk_lt f P
  change G E g [(h, .inr (3, [.ref b, .int sz, .int pl])), (b, aB E (1500) (f))] 0 0 0 [(0, .ref h), (1, .int x), (2, .int y)] []
  refine g_iconst C dX1_number_0 (by decide) (fun x0 e0 => ?_)
  refine g_istore_n C dX1_number_1 (by omega) (lv' := [(3, .int x0), (0, .ref h), (1, .int x), (2, .int y)]) rfl ?_
  refine g_iload_n C dX1_number_2 2 rfl ?_
  refine g_istore C dX1_number_3 (by omega) (lv' := [(4, .int x), (3, .int x0), (0, .ref h), (1, .int x), (2, .int y)]) rfl ?_
  have loop5 : ∀ (n : Nat) (n4 : Int32) (n3 : Int32) (k : Nat) (hm : dg - k < n) (hk : k ≤ dg) (hp : n4.toInt = ((fr + k : Nat) : Int)) (hn : n3.toInt = numI (lk f P) fr k), G E g [(h, .inr (3, [.ref b, .int sz, .int pl])), (b, aB E (1500) (f))] 0 0 5 [(0, .ref h), (1, .int x), (2, .int y), (3, .int n3), (4, .int n4)] [] := by
    intro n
    induction n with
    | zero => intro n4 n3 k hm hk hp hn; omega
    | succ n ih5 =>
      intro n4 n3 k hm hk hp hn
      have hb := numI_bd hb8 fr k (by omega)
      refine g_iload C dX1_number_5 4 rfl ?_
      refine g_iload_n C dX1_number_7 1 rfl ?_
      refine g_iload_n C dX1_number_8 2 rfl ?_
      refine g_iadd C dX1_number_9 (by omega) (fun x9 e9 => ?_)
      refine g_icmp_ge C 34 dX1_number_10 (by decide) (fun c10 => ?_) (fun c10 => ?_)
      · refine g_iload_n C dX1_number_34 3 rfl ?_
        exact g_iret C F dX1_number_35 rfl rfl (by omega) (by omega) (by refine ⟨_, rfl, ?_, rfl⟩; show n3.toInt = _; rw [hn, show k = dg by omega])
      · refine g_iload_n C dX1_number_13 3 rfl ?_
        refine g_bipush C dX1_number_14 (by decide) (fun x14 e14 => ?_)
        refine g_imul C dX1_number_16 (n3.toInt * 10) (by rw [e14]) (by omega) (fun x16 e16 => ?_)
        refine g_aload_n C dX1_number_17 0 rfl ?_
        refine g_iload C dX1_number_18 4 rfl ?_
        refine g_callV C r mv_X1_22 dX1_number_20 (c_X1_at' g.l E h b f sz pl S P n4 (fr + k) hS hP hPS hSm (by omega) (by omega)) (wr := []) (As := [.int n4]) (rest := [.int x16]) (Spl.at [] [0, 1] rfl rfl rfl) 0 rfl rfl rfl rfl (Nat.le_of_ble_eq_true rfl) (by decide) (by omega) (by omega) (fun v w h => ?_)
        obtain ⟨x20, rfl, e20, rfl⟩ := h
        change G E g [(h, .inr (3, [.ref b, .int sz, .int pl])), (b, aB E (1500) (f))] _ _ _ _ [.int x20, .int x16]
        have := hb8 (fr + k)
        refine g_iadd C dX1_number_23 (by omega) (fun x23 e23 => ?_)
        refine g_bipush C dX1_number_24 (by decide) (fun x24 e24 => ?_)
        refine g_isub C dX1_number_26 (by omega) (fun x26 e26 => ?_)
        refine g_istore_n C dX1_number_27 (by omega) (lv' := [(3, .int x26), (0, .ref h), (1, .int x), (2, .int y), (4, .int n4)]) rfl ?_
        refine g_iinc C dX1_number_28 4 rfl (by omega) (by decide) (by omega) (fun x28 e28 => ?_)
        refine g_lvE (lv' := [(4, .int x28), (3, .int x26), (0, .ref h), (1, .int x), (2, .int y)]) rfl ?_
        refine g_goto C 5 dX1_number_31 (by decide) ?_
        refine g_lv [2, 3, 4, 1, 0] (lv' := [(0, .ref h), (1, .int x), (2, .int y), (3, .int x26), (4, .int x28)]) rfl ?_
        exact ih5 (x28) (x26) (k + 1) (by omega) (by omega) (by omega) (by rw [show numI (lk f P) fr (k + 1) = numI (lk f P) fr k * 10 + (lk f P (fr + k) : Int) - 48 from rfl]; omega)
  refine g_lv [2, 3, 4, 1, 0] (lv' := [(0, .ref h), (1, .int x), (2, .int y), (3, .int x0), (4, .int x)]) rfl ?_
  exact loop5 _ (x) (x0) (0) (Nat.lt_succ_self _) (by omega) (by omega) (by show _ = (0 : Int); omega)
set_option maxHeartbeats 1000000 in
set_option maxRecDepth 10000 in
theorem c_X1_wrongDigit (l : Launch) (E : GE) (h b : Nat) (f : Nat → Int32) (sz pl : Int32) (S P : Nat) (x y : Int32) (fr dg : Nat) (hS : sz.toInt = (S : Int)) (hP : pl.toInt = (P : Int)) (hPS : P ≤ S) (hSm : S ≤ 1500) (hx : x.toInt = (fr : Int)) (hy : y.toInt = (dg : Int)) (hl : fr + dg ≤ S - P) : Ctr l E yX1_wrongDigit cX1_wrongDigit 4 (some .int) 1 (0) (0) [.ref h, .int x, .int y] [(h, .inr (3, [.ref b, .int sz, .int pl])), (b, aB E (1500) (f))] (oI (fun r => r.toInt = nD (lk f P) fr dg) [(h, .inr (3, [.ref b, .int sz, .int pl])), (b, aB E (1500) (f))]) := by
  refine Ctr.intro (by decide) (Nat.le_of_ble_eq_true rfl) (fun g hgl hN C r F hi => ?_)
  subst hgl
  have hb8 := lk_lt f P
  change G E g [(h, .inr (3, [.ref b, .int sz, .int pl])), (b, aB E (1500) (f))] 0 0 0 [(0, .ref h), (1, .int x), (2, .int y)] []
  refine g_iload_n C dX1_wrongDigit_0 1 rfl ?_
  refine g_istore_n C dX1_wrongDigit_1 (by omega) (lv' := [(3, .int x), (0, .ref h), (1, .int x), (2, .int y)]) rfl ?_
  have loop2 : ∀ (n : Nat) (n3 : Int32) (k : Nat) (hm : dg - k < n) (hk : k ≤ dg) (hp : n3.toInt = ((fr + k : Nat) : Int)) (hn : nD (lk f P) fr dg = nD (lk f P) (fr + k) (dg - k)), G E g [(h, .inr (3, [.ref b, .int sz, .int pl])), (b, aB E (1500) (f))] 0 0 2 [(0, .ref h), (1, .int x), (2, .int y), (3, .int n3)] [] := by
    intro n
    induction n with
    | zero => intro n3 k hm hk hp hn; omega
    | succ n ih2 =>
      intro n3 k hm hk hp hn
      refine g_iload_n C dX1_wrongDigit_2 3 rfl ?_
      refine g_iload_n C dX1_wrongDigit_3 1 rfl ?_
      refine g_iload_n C dX1_wrongDigit_4 2 rfl ?_
      refine g_iadd C dX1_wrongDigit_5 (by omega) (fun x5 e5 => ?_)
      refine g_icmp_ge C 28 dX1_wrongDigit_6 (by decide) (fun c6 => ?_) (fun c6 => ?_)
      · refine g_iconst C dX1_wrongDigit_28 (by decide) (fun x28 e28 => ?_)
        exact g_iret C F dX1_wrongDigit_29 rfl rfl (by omega) (by omega) (by refine ⟨_, rfl, ?_, rfl⟩; show _ = _; rw [hn, nD_zero (by omega)]; omega)
      · refine g_aload_n C dX1_wrongDigit_9 0 rfl ?_
        refine g_iload_n C dX1_wrongDigit_10 3 rfl ?_
        refine g_callV C r mv_X1_22 dX1_wrongDigit_11 (c_X1_at' g.l E h b f sz pl S P n3 (fr + k) hS hP hPS hSm (by omega) (by omega)) (wr := []) (As := [.int n3]) (rest := []) (Spl.at [] [0, 1] rfl rfl rfl) 0 rfl rfl rfl rfl (Nat.le_of_ble_eq_true rfl) (by decide) (by omega) (by omega) (fun v w h => ?_)
        obtain ⟨x11, rfl, e11, rfl⟩ := h
        change G E g [(h, .inr (3, [.ref b, .int sz, .int pl])), (b, aB E (1500) (f))] _ _ _ _ [.int x11]
        have := hb8 (fr + k)
        refine g_callN C r mn_X1_62 dX1_wrongDigit_14 (c_X3_isDigit g.l E x11) (wr := [(h, .inr (3, [.ref b, .int sz, .int pl])), (b, aB E (1500) (f))]) (As := [.int x11]) (rest := []) (Spl.at [0, 1] [] rfl rfl rfl) rfl (Nat.le_of_ble_eq_true rfl) (by decide) (by omega) (by omega) (fun v w h => ?_)
        obtain ⟨x14, rfl, e14, rfl⟩ := h
        change G E g [(h, .inr (3, [.ref b, .int sz, .int pl])), (b, aB E (1500) (f))] _ _ _ _ [.int x14]
        refine g_if_ne C 22 dX1_wrongDigit_17 (by decide) (fun c17 => ?_) (fun c17 => ?_)
        · refine g_iinc C dX1_wrongDigit_22 3 rfl (by omega) (by decide) (by omega) (fun x22 e22 => ?_)
          refine g_lvE (lv' := [(3, .int x22), (0, .ref h), (1, .int x), (2, .int y)]) rfl ?_
          refine g_goto C 2 dX1_wrongDigit_25 (by decide) ?_
          refine g_lv [1, 2, 3, 0] (lv' := [(0, .ref h), (1, .int x), (2, .int y), (3, .int x22)]) rfl ?_
          exact ih2 (x22) (k + 1) (by omega) (by omega) (by omega) (by rw [hn, nD_miss (by omega) (by omega), show dg - k - 1 = dg - (k + 1) by omega]; rfl)
        · refine g_iload_n C dX1_wrongDigit_20 3 rfl ?_
          exact g_iret C F dX1_wrongDigit_21 rfl rfl (by omega) (by omega) (by refine ⟨_, rfl, ?_, rfl⟩; show n3.toInt = _; rw [hn, nD_hit (by omega) (by omega)]; omega)
  refine g_lv [1, 2, 3, 0] (lv' := [(0, .ref h), (1, .int x), (2, .int y), (3, .int x)]) rfl ?_
  exact loop2 _ (x) (0) (Nat.lt_succ_self _) (by omega) (by omega) (by rfl)
set_option maxHeartbeats 1000000 in
set_option maxRecDepth 10000 in
theorem c_X1_firstMark (l : Launch) (E : GE) (h b : Nat) (f : Nat → Int32) (sz pl : Int32) (S P : Nat) (x y : Int32) (fr en : Nat) (hS : sz.toInt = (S : Int)) (hP : pl.toInt = (P : Int)) (hPS : P ≤ S) (hSm : S ≤ 1500) (hx : x.toInt = (fr : Int)) (hy : y.toInt = (en : Int)) (hl : en ≤ S - P) (hfe : fr ≤ en) : Ctr l E yX1_firstMark cX1_firstMark 4 (some .int) 1 (0) (0) [.ref h, .int x, .int y] [(h, .inr (3, [.ref b, .int sz, .int pl])), (b, aB E (1500) (f))] (oI (fun r => r.toInt = nM (lk f P) fr (en - fr)) [(h, .inr (3, [.ref b, .int sz, .int pl])), (b, aB E (1500) (f))]) := by
  refine Ctr.intro (by decide) (Nat.le_of_ble_eq_true rfl) (fun g hgl hN C r F hi => ?_)
  subst hgl
  have hb8 := lk_lt f P
  change G E g [(h, .inr (3, [.ref b, .int sz, .int pl])), (b, aB E (1500) (f))] 0 0 0 [(0, .ref h), (1, .int x), (2, .int y)] []
  refine g_iload_n C dX1_firstMark_0 1 rfl ?_
  refine g_istore_n C dX1_firstMark_1 (by omega) (lv' := [(3, .int x), (0, .ref h), (1, .int x), (2, .int y)]) rfl ?_
  have loop2 : ∀ (n : Nat) (n3 : Int32) (k : Nat) (hm : en - k < n) (hk : fr ≤ k ∧ k ≤ en) (hp : n3.toInt = (k : Int)) (hn : nM (lk f P) fr (en - fr) = nM (lk f P) k (en - k)), G E g [(h, .inr (3, [.ref b, .int sz, .int pl])), (b, aB E (1500) (f))] 0 0 2 [(0, .ref h), (1, .int x), (2, .int y), (3, .int n3)] [] := by
    intro n
    induction n with
    | zero => intro n3 k hm hk hp hn; omega
    | succ n ih2 =>
      intro n3 k hm hk hp hn
      refine g_iload_n C dX1_firstMark_2 3 rfl ?_
      refine g_iload_n C dX1_firstMark_3 2 rfl ?_
      refine g_icmp_ge C 26 dX1_firstMark_4 (by decide) (fun c4 => ?_) (fun c4 => ?_)
      · refine g_iconst C dX1_firstMark_26 (by decide) (fun x26 e26 => ?_)
        exact g_iret C F dX1_firstMark_27 rfl rfl (by omega) (by omega) (by refine ⟨_, rfl, ?_, rfl⟩; show _ = _; rw [hn, nM_zero (by omega)]; omega)
      · refine g_aload_n C dX1_firstMark_7 0 rfl ?_
        refine g_iload_n C dX1_firstMark_8 3 rfl ?_
        refine g_callV C r mv_X1_22 dX1_firstMark_9 (c_X1_at' g.l E h b f sz pl S P n3 (k) hS hP hPS hSm (by omega) (by omega)) (wr := []) (As := [.int n3]) (rest := []) (Spl.at [] [0, 1] rfl rfl rfl) 0 rfl rfl rfl rfl (Nat.le_of_ble_eq_true rfl) (by decide) (by omega) (by omega) (fun v w h => ?_)
        obtain ⟨x9, rfl, e9, rfl⟩ := h
        change G E g [(h, .inr (3, [.ref b, .int sz, .int pl])), (b, aB E (1500) (f))] _ _ _ _ [.int x9]
        have := hb8 (k)
        refine g_callN C r mn_X1_59 dX1_firstMark_12 (c_X3_isMark g.l E x9) (wr := [(h, .inr (3, [.ref b, .int sz, .int pl])), (b, aB E (1500) (f))]) (As := [.int x9]) (rest := []) (Spl.at [0, 1] [] rfl rfl rfl) rfl (Nat.le_of_ble_eq_true rfl) (by decide) (by omega) (by omega) (fun v w h => ?_)
        obtain ⟨x12, rfl, e12, rfl⟩ := h
        change G E g [(h, .inr (3, [.ref b, .int sz, .int pl])), (b, aB E (1500) (f))] _ _ _ _ [.int x12]
        refine g_if_eq C 20 dX1_firstMark_15 (by decide) (fun c15 => ?_) (fun c15 => ?_)
        · refine g_iinc C dX1_firstMark_20 3 rfl (by omega) (by decide) (by omega) (fun x20 e20 => ?_)
          refine g_lvE (lv' := [(3, .int x20), (0, .ref h), (1, .int x), (2, .int y)]) rfl ?_
          refine g_goto C 2 dX1_firstMark_23 (by decide) ?_
          refine g_lv [1, 2, 3, 0] (lv' := [(0, .ref h), (1, .int x), (2, .int y), (3, .int x20)]) rfl ?_
          exact ih2 (x20) (k + 1) (by omega) (by omega) (by omega) (by rw [hn, nM_miss (by omega) (by omega), show en - k - 1 = en - (k + 1) by omega])
        · refine g_iload_n C dX1_firstMark_18 3 rfl ?_
          exact g_iret C F dX1_firstMark_19 rfl rfl (by omega) (by omega) (by refine ⟨_, rfl, ?_, rfl⟩; show n3.toInt = _; rw [hn, nM_hit (by omega) (by omega)]; omega)
  refine g_lv [1, 2, 3, 0] (lv' := [(0, .ref h), (1, .int x), (2, .int y), (3, .int x)]) rfl ?_
  exact loop2 _ (x) (fr) (Nat.lt_succ_self _) (by omega) (by omega) (by rfl)
set_option maxHeartbeats 1000000 in
set_option maxRecDepth 10000 in
theorem c_X1_wrongInTotal (l : Launch) (E : GE) (h b : Nat) (f : Nat → Int32) (sz pl : Int32) (S P : Nat)  (hS : sz.toInt = (S : Int)) (hP : pl.toInt = (P : Int)) (hPS : P ≤ S) (hSm : S ≤ 1500) (hl : 24 ≤ S - P) : Ctr l E yX1_wrongInTotal cX1_wrongInTotal 2 (some .int) 2 (0) (0) [.ref h] [(h, .inr (3, [.ref b, .int sz, .int pl])), (b, aB E (1500) (f))] (oI (fun r => r.toInt = wTot (lk f P)) [(h, .inr (3, [.ref b, .int sz, .int pl])), (b, aB E (1500) (f))]) := by
  refine Ctr.intro (by decide) (Nat.le_of_ble_eq_true rfl) (fun g hgl hN C r F hi => ?_)
  subst hgl
  have hb8 := lk_lt f P
  change G E g [(h, .inr (3, [.ref b, .int sz, .int pl])), (b, aB E (1500) (f))] 0 0 0 [(0, .ref h)] []
  refine g_aload_n C dX1_wrongInTotal_0 0 rfl ?_
  refine g_iconst C dX1_wrongInTotal_1 (by decide) (fun x1 e1 => ?_)
  refine g_iconst C dX1_wrongInTotal_2 (by decide) (fun x2 e2 => ?_)
  refine g_callV C r mv_X1_26 dX1_wrongInTotal_3 (c_X1_wrongDigit g.l E h b f sz pl S P x1 x2 (0) 5 hS hP hPS hSm (by omega) (by omega) (by omega)) (wr := []) (As := [.int x1, .int x2]) (rest := []) (Spl.at [] [0, 1] rfl rfl rfl) 0 rfl rfl rfl rfl (Nat.le_of_ble_eq_true rfl) (by decide) (by omega) (by omega) (fun v w h => ?_)
  obtain ⟨x3, rfl, e3, rfl⟩ := h
  change G E g [(h, .inr (3, [.ref b, .int sz, .int pl])), (b, aB E (1500) (f))] _ _ _ _ [.int x3]
  refine g_istore_n C dX1_wrongInTotal_6 (by omega) (lv' := [(1, .int x3), (0, .ref h)]) rfl ?_
  refine g_iload_n C dX1_wrongInTotal_7 0 rfl ?_
  refine g_iconst C dX1_wrongInTotal_8 (by decide) (fun x8 e8 => ?_)
  refine g_icmp_eq C 14 dX1_wrongInTotal_9 (by decide) (fun c9 => ?_) (fun c9 => ?_)
  · refine g_aload_n C dX1_wrongInTotal_14 1 rfl ?_
    refine g_iconst C dX1_wrongInTotal_15 (by decide) (fun x15 e15 => ?_)
    refine g_iconst C dX1_wrongInTotal_16 (by decide) (fun x16 e16 => ?_)
    refine g_callV C r mv_X1_30 dX1_wrongInTotal_17 (c_X1_number g.l E h b f sz pl S P x15 x16 (0) 5 hS hP hPS hSm (by omega) (by omega) (by decide) (by omega)) (wr := []) (As := [.int x15, .int x16]) (rest := []) (Spl.at [] [0, 1] rfl rfl rfl) 0 rfl rfl rfl rfl (Nat.le_of_ble_eq_true rfl) (by decide) (by omega) (by omega) (fun v w h => ?_)
    obtain ⟨x17, rfl, e17, rfl⟩ := h
    change G E g [(h, .inr (3, [.ref b, .int sz, .int pl])), (b, aB E (1500) (f))] _ _ _ _ [.int x17]
    refine g_bipush C dX1_wrongInTotal_20 (by decide) (fun x20 e20 => ?_)
    refine g_icmp_ge C 29 dX1_wrongInTotal_22 (by decide) (fun c22 => ?_) (fun c22 => ?_)
    · refine g_iconst C dX1_wrongInTotal_29 (by decide) (fun x29 e29 => ?_)
      exact g_iret C F dX1_wrongInTotal_30 rfl rfl (by omega) (by omega) (by refine ⟨_, rfl, ?_, rfl⟩; show _ = wTot _; unfold wTot; (repeat' split) <;> omega)
    · refine g_iconst C dX1_wrongInTotal_25 (by decide) (fun x25 e25 => ?_)
      refine g_goto C 30 dX1_wrongInTotal_26 (by decide) ?_
      exact g_iret C F dX1_wrongInTotal_30 rfl rfl (by omega) (by omega) (by refine ⟨_, rfl, ?_, rfl⟩; show _ = wTot _; unfold wTot; (repeat' split) <;> omega)
  · refine g_iload_n C dX1_wrongInTotal_12 0 rfl ?_
    exact g_iret C F dX1_wrongInTotal_13 rfl rfl (by omega) (by omega) (by refine ⟨_, rfl, ?_, rfl⟩; show _ = wTot _; unfold wTot; (repeat' split) <;> omega)
set_option maxHeartbeats 1000000 in
set_option maxRecDepth 10000 in
theorem c_X1_wrongEnd (l : Launch) (E : GE) (h b : Nat) (f : Nat → Int32) (sz pl : Int32) (S P : Nat) (x : Int32) (la : Nat) (hS : sz.toInt = (S : Int)) (hP : pl.toInt = (P : Int)) (hPS : P ≤ S) (hSm : S ≤ 1500) (hx : x.toInt = (la : Int)) (hl : la < S - P) : Ctr l E yX1_wrongEnd cX1_wrongEnd 2 (some .int) 1 (0) (0) [.ref h, .int x] [(h, .inr (3, [.ref b, .int sz, .int pl])), (b, aB E (1500) (f))] (oI (fun r => r.toInt = wEnd (lk f P) la) [(h, .inr (3, [.ref b, .int sz, .int pl])), (b, aB E (1500) (f))]) := by
  refine Ctr.intro (by decide) (Nat.le_of_ble_eq_true rfl) (fun g hgl hN C r F hi => ?_)
  subst hgl
  have hb8 := lk_lt f P
  change G E g [(h, .inr (3, [.ref b, .int sz, .int pl])), (b, aB E (1500) (f))] 0 0 0 [(0, .ref h), (1, .int x)] []
  refine g_aload_n C dX1_wrongEnd_0 0 rfl ?_
  refine g_iload_n C dX1_wrongEnd_1 1 rfl ?_
  refine g_callV C r mv_X1_22 dX1_wrongEnd_2 (c_X1_at' g.l E h b f sz pl S P x (la) hS hP hPS hSm (by omega) (by omega)) (wr := []) (As := [.int x]) (rest := []) (Spl.at [] [0, 1] rfl rfl rfl) 0 rfl rfl rfl rfl (Nat.le_of_ble_eq_true rfl) (by decide) (by omega) (by omega) (fun v w h => ?_)
  obtain ⟨x2, rfl, e2, rfl⟩ := h
  change G E g [(h, .inr (3, [.ref b, .int sz, .int pl])), (b, aB E (1500) (f))] _ _ _ _ [.int x2]
  have := hb8 (la)
  refine g_bipush C dX1_wrongEnd_5 (by decide) (fun x5 e5 => ?_)
  refine g_icmp_ne C 14 dX1_wrongEnd_7 (by decide) (fun c7 => ?_) (fun c7 => ?_)
  · refine g_iload_n C dX1_wrongEnd_14 1 rfl ?_
    exact g_iret C F dX1_wrongEnd_15 rfl rfl (by omega) (by omega) (by refine ⟨_, rfl, ?_, rfl⟩; show _ = wEnd _ _; unfold wEnd; split <;> omega)
  · refine g_iconst C dX1_wrongEnd_10 (by decide) (fun x10 e10 => ?_)
    refine g_goto C 15 dX1_wrongEnd_11 (by decide) ?_
    exact g_iret C F dX1_wrongEnd_15 rfl rfl (by omega) (by omega) (by refine ⟨_, rfl, ?_, rfl⟩; show _ = wEnd _ _; unfold wEnd; split <;> omega)
set_option maxHeartbeats 1000000 in
set_option maxRecDepth 10000 in
theorem c_X1_wrongInControlField (l : Launch) (E : GE) (h b : Nat) (f : Nat → Int32) (sz pl : Int32) (S P : Nat) (x y : Int32) (fr la : Nat) (hS : sz.toInt = (S : Int)) (hP : pl.toInt = (P : Int)) (hPS : P ≤ S) (hSm : S ≤ 1500) (hx : x.toInt = (fr : Int)) (hy : y.toInt = (la : Int)) (hl : la < S - P) (hfe : fr ≤ la) : Ctr l E yX1_wrongInControlField cX1_wrongInControlField 4 (some .int) 2 (0) (0) [.ref h, .int x, .int y] [(h, .inr (3, [.ref b, .int sz, .int pl])), (b, aB E (1500) (f))] (oI (fun r => r.toInt = wCtl (lk f P) fr la) [(h, .inr (3, [.ref b, .int sz, .int pl])), (b, aB E (1500) (f))]) := by
  refine Ctr.intro (by decide) (Nat.le_of_ble_eq_true rfl) (fun g hgl hN C r F hi => ?_)
  subst hgl
  have hb8 := lk_lt f P
  change G E g [(h, .inr (3, [.ref b, .int sz, .int pl])), (b, aB E (1500) (f))] 0 0 0 [(0, .ref h), (1, .int x), (2, .int y)] []
  refine g_aload_n C dX1_wrongInControlField_0 0 rfl ?_
  refine g_iload_n C dX1_wrongInControlField_1 1 rfl ?_
  refine g_iload_n C dX1_wrongInControlField_2 2 rfl ?_
  refine g_callV C r mv_X1_53 dX1_wrongInControlField_3 (c_X1_firstMark g.l E h b f sz pl S P x y (fr) (la) hS hP hPS hSm (by omega) (by omega) (by omega) (by omega)) (wr := []) (As := [.int x, .int y]) (rest := []) (Spl.at [] [0, 1] rfl rfl rfl) 0 rfl rfl rfl rfl (Nat.le_of_ble_eq_true rfl) (by decide) (by omega) (by omega) (fun v w h => ?_)
  obtain ⟨x3, rfl, e3, rfl⟩ := h
  change G E g [(h, .inr (3, [.ref b, .int sz, .int pl])), (b, aB E (1500) (f))] _ _ _ _ [.int x3]
  refine g_istore_n C dX1_wrongInControlField_6 (by omega) (lv' := [(3, .int x3), (0, .ref h), (1, .int x), (2, .int y)]) rfl ?_
  refine g_iload_n C dX1_wrongInControlField_7 0 rfl ?_
  refine g_iconst C dX1_wrongInControlField_8 (by decide) (fun x8 e8 => ?_)
  refine g_icmp_eq C 16 dX1_wrongInControlField_9 (by decide) (fun c9 => ?_) (fun c9 => ?_)
  · refine g_aload_n C dX1_wrongInControlField_16 1 rfl ?_
    refine g_iload_n C dX1_wrongInControlField_17 3 rfl ?_
    refine g_callV C r mv_X1_56 dX1_wrongInControlField_18 (c_X1_wrongEnd g.l E h b f sz pl S P y (la) hS hP hPS hSm (by omega) (by omega)) (wr := []) (As := [.int y]) (rest := []) (Spl.at [] [0, 1] rfl rfl rfl) 0 rfl rfl rfl rfl (Nat.le_of_ble_eq_true rfl) (by decide) (by omega) (by omega) (fun v w h => ?_)
    obtain ⟨x18, rfl, e18, rfl⟩ := h
    change G E g [(h, .inr (3, [.ref b, .int sz, .int pl])), (b, aB E (1500) (f))] _ _ _ _ [.int x18]
    exact g_iret C F dX1_wrongInControlField_21 rfl rfl (by omega) (by omega) (by refine ⟨_, rfl, ?_, rfl⟩; show _ = wCtl _ _ _; unfold wCtl; split <;> omega)
  · refine g_iload_n C dX1_wrongInControlField_12 0 rfl ?_
    refine g_goto C 21 dX1_wrongInControlField_13 (by decide) ?_
    exact g_iret C F dX1_wrongInControlField_21 rfl rfl (by omega) (by omega) (by refine ⟨_, rfl, ?_, rfl⟩; show _ = wCtl _ _ _; unfold wCtl; split <;> omega)
set_option maxHeartbeats 1000000 in
set_option maxRecDepth 10000 in
theorem c_X1_wrongInOtherField (l : Launch) (E : GE) (h b : Nat) (f : Nat → Int32) (sz pl : Int32) (S P : Nat) (x y : Int32) (fr la : Nat) (hS : sz.toInt = (S : Int)) (hP : pl.toInt = (P : Int)) (hPS : P ≤ S) (hSm : S ≤ 1500) (hx : x.toInt = (fr : Int)) (hy : y.toInt = (la : Int)) (hl : la < S - P) (hfe : fr + 2 ≤ la) : Ctr l E yX1_wrongInOtherField cX1_wrongInOtherField 7 (some .int) 2 (0) (0) [.ref h, .int x, .int y] [(h, .inr (3, [.ref b, .int sz, .int pl])), (b, aB E (1500) (f))] (oI (fun r => r.toInt = wOth (lk f P) fr la) [(h, .inr (3, [.ref b, .int sz, .int pl])), (b, aB E (1500) (f))]) := by
  refine Ctr.intro (by decide) (Nat.le_of_ble_eq_true rfl) (fun g hgl hN C r F hi => ?_)
  subst hgl
  have hb8 := lk_lt f P
  change G E g [(h, .inr (3, [.ref b, .int sz, .int pl])), (b, aB E (1500) (f))] 0 0 0 [(0, .ref h), (1, .int x), (2, .int y)] []
  refine g_iload_n C dX1_wrongInOtherField_0 1 rfl ?_
  refine g_iconst C dX1_wrongInOtherField_1 (by decide) (fun x1 e1 => ?_)
  refine g_iadd C dX1_wrongInOtherField_2 (by omega) (fun x2 e2 => ?_)
  refine g_istore_n C dX1_wrongInOtherField_3 (by omega) (lv' := [(3, .int x2), (0, .ref h), (1, .int x), (2, .int y)]) rfl ?_
  refine g_aload_n C dX1_wrongInOtherField_4 1 rfl ?_
  refine g_iload_n C dX1_wrongInOtherField_5 2 rfl ?_
  refine g_iload_n C dX1_wrongInOtherField_6 0 rfl ?_
  refine g_callV C r mv_X1_53 dX1_wrongInOtherField_7 (c_X1_firstMark g.l E h b f sz pl S P x x2 (fr) (fr + 2) hS hP hPS hSm (by omega) (by omega) (by omega) (by omega)) (wr := []) (As := [.int x, .int x2]) (rest := []) (Spl.at [] [0, 1] rfl rfl rfl) 0 rfl rfl rfl rfl (Nat.le_of_ble_eq_true rfl) (by decide) (by omega) (by omega) (fun v w h => ?_)
  obtain ⟨x7, rfl, e7, rfl⟩ := h
  change G E g [(h, .inr (3, [.ref b, .int sz, .int pl])), (b, aB E (1500) (f))] _ _ _ _ [.int x7]
  rw [show fr + 2 - fr = 2 by omega] at e7
  refine g_istore C dX1_wrongInOtherField_10 (by omega) (lv' := [(4, .int x7), (3, .int x2), (0, .ref h), (1, .int x), (2, .int y)]) rfl ?_
  refine g_iload C dX1_wrongInOtherField_12 0 rfl ?_
  refine g_iconst C dX1_wrongInOtherField_14 (by decide) (fun x14 e14 => ?_)
  refine g_icmp_eq C 21 dX1_wrongInOtherField_15 (by decide) (fun c15 => ?_) (fun c15 => ?_)
  · have J38 : ∀ (_ : True) (hq : ¬ (fr + 2 < la ∧ lk f P (fr + 2) ≠ 31)), G E g [(h, .inr (3, [.ref b, .int sz, .int pl])), (b, aB E (1500) (f))] 0 0 38 [(0, .ref h), (1, .int x), (2, .int y), (3, .int x2)] [] := by
      intro _ hq
      refine g_iload_n C dX1_wrongInOtherField_38 3 rfl ?_
      refine g_istore C dX1_wrongInOtherField_39 (by omega) (lv' := [(5, .int x2), (0, .ref h), (1, .int x), (2, .int y), (3, .int x2)]) rfl ?_
      have loop41 : ∀ (n : Nat) (n5 : Int32) (k : Nat) (hm : la - k < n) (hk : fr + 2 ≤ k ∧ k ≤ la) (hp : n5.toInt = (k : Int)) (hn : fI (badO (lk f P) la) (fr + 2) (la - (fr + 2)) = fI (badO (lk f P) la) k (la - k)), G E g [(h, .inr (3, [.ref b, .int sz, .int pl])), (b, aB E (1500) (f))] 0 0 41 [(0, .ref h), (1, .int x), (2, .int y), (3, .int x2), (5, .int n5)] [] := by
        intro n
        induction n with
        | zero => intro n5 k hm hk hp hn; omega
        | succ n ih41 =>
          intro n5 k hm hk hp hn
          refine g_iload C dX1_wrongInOtherField_41 4 rfl ?_
          refine g_iload_n C dX1_wrongInOtherField_43 2 rfl ?_
          refine g_icmp_ge C 112 dX1_wrongInOtherField_44 (by decide) (fun c44 => ?_) (fun c44 => ?_)
          · refine g_aload_n C dX1_wrongInOtherField_112 0 rfl ?_
            refine g_iload_n C dX1_wrongInOtherField_113 2 rfl ?_
            refine g_callV C r mv_X1_56 dX1_wrongInOtherField_114 (c_X1_wrongEnd g.l E h b f sz pl S P y (la) hS hP hPS hSm (by omega) (by omega)) (wr := []) (As := [.int y]) (rest := []) (Spl.at [] [0, 1] rfl rfl rfl) 0 rfl rfl rfl rfl (Nat.le_of_ble_eq_true rfl) (by decide) (by omega) (by omega) (fun v w h => ?_)
            obtain ⟨x114, rfl, e114, rfl⟩ := h
            change G E g [(h, .inr (3, [.ref b, .int sz, .int pl])), (b, aB E (1500) (f))] _ _ _ _ [.int x114]
            exact g_iret C F dX1_wrongInOtherField_117 rfl rfl (by omega) (by omega) (by refine ⟨_, rfl, ?_, rfl⟩; show _ = _; have h9 : fI (badO (lk f P) la) k (la - k) = -1 := fI_zero (by omega); unfold wOth; (repeat' split) <;> omega)
          · have J73 : ∀ (z : Int32) (hz : (z.toInt = 1 ∧ (lk f P (k - 1) = 31 ∨ k + 1 = la)) ∨ (z.toInt = 0 ∧ ¬ (lk f P (k - 1) = 31 ∨ k + 1 = la))), G E g [(h, .inr (3, [.ref b, .int sz, .int pl])), (b, aB E (1500) (f))] 0 0 73 [(0, .ref h), (1, .int x), (2, .int y), (3, .int x2), (5, .int n5)] [.int z] := by
              intro z hz
              refine g_istore C dX1_wrongInOtherField_73 (by omega) (lv' := [(6, .int z), (0, .ref h), (1, .int x), (2, .int y), (3, .int x2), (5, .int n5)]) rfl ?_
              have J106 : ∀ (_ : True) (hmiss : ¬ (29 ≤ lk f P k ∧ lk f P k ≤ 31) ∨ ¬ (lk f P k ≠ 31 ∨ lk f P (k - 1) = 31 ∨ k + 1 = la)), G E g [(h, .inr (3, [.ref b, .int sz, .int pl])), (b, aB E (1500) (f))] 0 0 106 [(0, .ref h), (1, .int x), (2, .int y), (3, .int x2), (5, .int n5)] [] := by
                intro _ hmiss
                refine g_iinc C dX1_wrongInOtherField_106 4 rfl (by omega) (by decide) (by omega) (fun x106 e106 => ?_)
                refine g_lvE (lv' := [(5, .int x106), (0, .ref h), (1, .int x), (2, .int y), (3, .int x2)]) rfl ?_
                refine g_goto C 41 dX1_wrongInOtherField_109 (by decide) ?_
                refine g_lv [1, 2, 3, 4, 0] (lv' := [(0, .ref h), (1, .int x), (2, .int y), (3, .int x2), (5, .int x106)]) rfl ?_
                exact ih41 (x106) (k + 1) (by omega) (by omega) (by omega) (by rw [hn, fO_miss hmiss (by omega), show la - k - 1 = la - (k + 1) by omega])
              refine g_aload_n C dX1_wrongInOtherField_75 1 rfl ?_
              refine g_iload C dX1_wrongInOtherField_76 5 rfl ?_
              refine g_callV C r mv_X1_22 dX1_wrongInOtherField_78 (c_X1_at' g.l E h b f sz pl S P n5 (k) hS hP hPS hSm (by omega) (by omega)) (wr := []) (As := [.int n5]) (rest := []) (Spl.at [] [0, 1] rfl rfl rfl) 0 rfl rfl rfl rfl (Nat.le_of_ble_eq_true rfl) (by decide) (by omega) (by omega) (fun v w h => ?_)
              obtain ⟨x78, rfl, e78, rfl⟩ := h
              change G E g [(h, .inr (3, [.ref b, .int sz, .int pl])), (b, aB E (1500) (f))] _ _ _ _ [.int x78]
              have := hb8 (k)
              refine g_callN C r mn_X1_59 dX1_wrongInOtherField_81 (c_X3_isMark g.l E x78) (wr := [(h, .inr (3, [.ref b, .int sz, .int pl])), (b, aB E (1500) (f))]) (As := [.int x78]) (rest := []) (Spl.at [0, 1] [] rfl rfl rfl) rfl (Nat.le_of_ble_eq_true rfl) (by decide) (by omega) (by omega) (fun v w h => ?_)
              obtain ⟨x81, rfl, e81, rfl⟩ := h
              change G E g [(h, .inr (3, [.ref b, .int sz, .int pl])), (b, aB E (1500) (f))] _ _ _ _ [.int x81]
              refine g_if_eq C 106 dX1_wrongInOtherField_84 (by decide) (fun c84 => ?_) (fun c84 => ?_)
              · refine g_lv [1, 2, 3, 4, 5] (lv' := [(0, .ref h), (1, .int x), (2, .int y), (3, .int x2), (5, .int n5)]) rfl ?_
                exact J106 trivial (by omega)
              · refine g_aload_n C dX1_wrongInOtherField_87 1 rfl ?_
                refine g_iload C dX1_wrongInOtherField_88 5 rfl ?_
                refine g_callV C r mv_X1_22 dX1_wrongInOtherField_90 (c_X1_at' g.l E h b f sz pl S P n5 (k) hS hP hPS hSm (by omega) (by omega)) (wr := []) (As := [.int n5]) (rest := []) (Spl.at [] [0, 1] rfl rfl rfl) 0 rfl rfl rfl rfl (Nat.le_of_ble_eq_true rfl) (by decide) (by omega) (by omega) (fun v w h => ?_)
                obtain ⟨x90, rfl, e90, rfl⟩ := h
                change G E g [(h, .inr (3, [.ref b, .int sz, .int pl])), (b, aB E (1500) (f))] _ _ _ _ [.int x90]
                have := hb8 (k)
                refine g_bipush C dX1_wrongInOtherField_93 (by decide) (fun x93 e93 => ?_)
                refine g_icmp_ne C 103 dX1_wrongInOtherField_95 (by decide) (fun c95 => ?_) (fun c95 => ?_)
                · refine g_iload C dX1_wrongInOtherField_103 5 rfl ?_
                  exact g_iret C F dX1_wrongInOtherField_105 rfl rfl (by omega) (by omega) (by refine ⟨_, rfl, ?_, rfl⟩; show _ = _; have h9 := fO_hit (b := lk f P) (last := la) (fr := k) (n := la - k) (by omega) (by omega) (by omega); unfold wOth; (repeat' split) <;> omega)
                · refine g_iload C dX1_wrongInOtherField_98 0 rfl ?_
                  refine g_if_eq C 106 dX1_wrongInOtherField_100 (by decide) (fun c100 => ?_) (fun c100 => ?_)
                  · refine g_lv [1, 2, 3, 4, 5] (lv' := [(0, .ref h), (1, .int x), (2, .int y), (3, .int x2), (5, .int n5)]) rfl ?_
                    exact J106 trivial (by omega)
                  · refine g_iload C dX1_wrongInOtherField_103 5 rfl ?_
                    exact g_iret C F dX1_wrongInOtherField_105 rfl rfl (by omega) (by omega) (by refine ⟨_, rfl, ?_, rfl⟩; show _ = _; have h9 := fO_hit (b := lk f P) (last := la) (fr := k) (n := la - k) (by omega) (by omega) (by omega); unfold wOth; (repeat' split) <;> omega)
            refine g_aload_n C dX1_wrongInOtherField_47 0 rfl ?_
            refine g_iload C dX1_wrongInOtherField_48 4 rfl ?_
            refine g_iconst C dX1_wrongInOtherField_50 (by decide) (fun x50 e50 => ?_)
            refine g_isub C dX1_wrongInOtherField_51 (by omega) (fun x51 e51 => ?_)
            refine g_callV C r mv_X1_22 dX1_wrongInOtherField_52 (c_X1_at' g.l E h b f sz pl S P x51 (k - 1) hS hP hPS hSm (by omega) (by omega)) (wr := []) (As := [.int x51]) (rest := []) (Spl.at [] [0, 1] rfl rfl rfl) 0 rfl rfl rfl rfl (Nat.le_of_ble_eq_true rfl) (by decide) (by omega) (by omega) (fun v w h => ?_)
            obtain ⟨x52, rfl, e52, rfl⟩ := h
            change G E g [(h, .inr (3, [.ref b, .int sz, .int pl])), (b, aB E (1500) (f))] _ _ _ _ [.int x52]
            have := hb8 (k - 1)
            refine g_bipush C dX1_wrongInOtherField_55 (by decide) (fun x55 e55 => ?_)
            refine g_icmp_eq C 68 dX1_wrongInOtherField_57 (by decide) (fun c57 => ?_) (fun c57 => ?_)
            · refine g_iconst C dX1_wrongInOtherField_68 (by decide) (fun x68 e68 => ?_)
              refine g_goto C 73 dX1_wrongInOtherField_69 (by decide) ?_
              refine g_lv [0, 1, 2, 3, 4] (lv' := [(0, .ref h), (1, .int x), (2, .int y), (3, .int x2), (5, .int n5)]) rfl ?_
              exact J73 (x68) (by omega)
            · refine g_iload C dX1_wrongInOtherField_60 4 rfl ?_
              refine g_iconst C dX1_wrongInOtherField_62 (by decide) (fun x62 e62 => ?_)
              refine g_iadd C dX1_wrongInOtherField_63 (by omega) (fun x63 e63 => ?_)
              refine g_iload_n C dX1_wrongInOtherField_64 2 rfl ?_
              refine g_icmp_ne C 72 dX1_wrongInOtherField_65 (by decide) (fun c65 => ?_) (fun c65 => ?_)
              · refine g_iconst C dX1_wrongInOtherField_72 (by decide) (fun x72 e72 => ?_)
                refine g_lv [0, 1, 2, 3, 4] (lv' := [(0, .ref h), (1, .int x), (2, .int y), (3, .int x2), (5, .int n5)]) rfl ?_
                exact J73 (x72) (by omega)
              · refine g_iconst C dX1_wrongInOtherField_68 (by decide) (fun x68 e68 => ?_)
                refine g_goto C 73 dX1_wrongInOtherField_69 (by decide) ?_
                refine g_lv [0, 1, 2, 3, 4] (lv' := [(0, .ref h), (1, .int x), (2, .int y), (3, .int x2), (5, .int n5)]) rfl ?_
                exact J73 (x68) (by omega)
      refine g_lv [1, 2, 3, 4, 0] (lv' := [(0, .ref h), (1, .int x), (2, .int y), (3, .int x2), (5, .int x2)]) rfl ?_
      exact loop41 _ (x2) (fr + 2) (Nat.lt_succ_self _) (by omega) (by omega) (by rfl)
    refine g_iload_n C dX1_wrongInOtherField_21 1 rfl ?_
    refine g_iload_n C dX1_wrongInOtherField_22 4 rfl ?_
    refine g_icmp_ge C 38 dX1_wrongInOtherField_23 (by decide) (fun c23 => ?_) (fun c23 => ?_)
    · refine g_lv [2, 3, 4, 1] (lv' := [(0, .ref h), (1, .int x), (2, .int y), (3, .int x2)]) rfl ?_
      exact J38 trivial (by omega)
    · refine g_aload_n C dX1_wrongInOtherField_26 2 rfl ?_
      refine g_iload_n C dX1_wrongInOtherField_27 1 rfl ?_
      refine g_callV C r mv_X1_22 dX1_wrongInOtherField_28 (c_X1_at' g.l E h b f sz pl S P x2 (fr + 2) hS hP hPS hSm (by omega) (by omega)) (wr := []) (As := [.int x2]) (rest := []) (Spl.at [] [0, 1] rfl rfl rfl) 0 rfl rfl rfl rfl (Nat.le_of_ble_eq_true rfl) (by decide) (by omega) (by omega) (fun v w h => ?_)
      obtain ⟨x28, rfl, e28, rfl⟩ := h
      change G E g [(h, .inr (3, [.ref b, .int sz, .int pl])), (b, aB E (1500) (f))] _ _ _ _ [.int x28]
      have := hb8 (fr + 2)
      refine g_bipush C dX1_wrongInOtherField_31 (by decide) (fun x31 e31 => ?_)
      refine g_icmp_eq C 38 dX1_wrongInOtherField_33 (by decide) (fun c33 => ?_) (fun c33 => ?_)
      · refine g_lv [2, 3, 4, 1] (lv' := [(0, .ref h), (1, .int x), (2, .int y), (3, .int x2)]) rfl ?_
        exact J38 trivial (by omega)
      · refine g_iload_n C dX1_wrongInOtherField_36 1 rfl ?_
        exact g_iret C F dX1_wrongInOtherField_37 rfl rfl (by omega) (by omega) (by refine ⟨_, rfl, ?_, rfl⟩; show _ = _; unfold wOth; (repeat' split) <;> omega)
  · refine g_iload C dX1_wrongInOtherField_18 0 rfl ?_
    exact g_iret C F dX1_wrongInOtherField_20 rfl rfl (by omega) (by omega) (by refine ⟨_, rfl, ?_, rfl⟩; show _ = _; unfold wOth; (repeat' split) <;> omega)
set_option maxHeartbeats 1000000 in
set_option maxRecDepth 10000 in
theorem c_X1_wrongInLeader (l : Launch) (E : GE) (h b : Nat) (f : Nat → Int32) (sz pl : Int32) (S P : Nat) (x : Int32) (all : Nat) (hS : sz.toInt = (S : Int)) (hP : pl.toInt = (P : Int)) (hPS : P ≤ S) (hSm : S ≤ 1500) (hx : x.toInt = (all : Int)) (hl : 26 ≤ all) (hl2 : all ≤ S - P) : Ctr l E yX1_wrongInLeader cX1_wrongInLeader 5 (some .int) 2 (0) (0) [.ref h, .int x] [(h, .inr (3, [.ref b, .int sz, .int pl])), (b, aB E (1500) (f))] (oI (fun r => r.toInt = wLead (lk f P) all) [(h, .inr (3, [.ref b, .int sz, .int pl])), (b, aB E (1500) (f))]) := by
  refine Ctr.intro (by decide) (Nat.le_of_ble_eq_true rfl) (fun g hgl hN C r F hi => ?_)
  subst hgl
  have hb8 := lk_lt f P
  change G E g [(h, .inr (3, [.ref b, .int sz, .int pl])), (b, aB E (1500) (f))] 0 0 0 [(0, .ref h), (1, .int x)] []
  refine g_iconst C dX1_wrongInLeader_0 (by decide) (fun x0 e0 => ?_)
  refine g_istore_n C dX1_wrongInLeader_1 (by omega) (lv' := [(2, .int x0), (0, .ref h), (1, .int x)]) rfl ?_
  have loop2 : ∀ (n : Nat) (n2 : Int32) (k : Nat) (hm : 24 - k < n) (hk : k ≤ 24) (hp : n2.toInt = (k : Int)) (h10 : 10 < k → lk f P 10 = 50) (h11 : 11 < k → lk f P 11 = 50) (h20 : 20 < k → lk f P 20 = 52) (h21 : 21 < k → lk f P 21 = 53), G E g [(h, .inr (3, [.ref b, .int sz, .int pl])), (b, aB E (1500) (f))] 0 0 2 [(0, .ref h), (1, .int x), (2, .int n2)] [] := by
    intro n
    induction n with
    | zero => intro n2 k hm hk hp h10 h11 h20 h21; omega
    | succ n ih2 =>
      intro n2 k hm hk hp h10 h11 h20 h21
      have k10 : k = 10 → lk f P k = lk f P 10 := fun h => by rw [h]
      have k11 : k = 11 → lk f P k = lk f P 11 := fun h => by rw [h]
      have k20 : k = 20 → lk f P k = lk f P 20 := fun h => by rw [h]
      have k21 : k = 21 → lk f P k = lk f P 21 := fun h => by rw [h]
      refine g_iload_n C dX1_wrongInLeader_2 2 rfl ?_
      refine g_bipush C dX1_wrongInLeader_3 (by decide) (fun x3 e3 => ?_)
      refine g_icmp_ge C 35 dX1_wrongInLeader_5 (by decide) (fun c5 => ?_) (fun c5 => ?_)
      · refine g_aload_n C dX1_wrongInLeader_35 0 rfl ?_
        refine g_bipush C dX1_wrongInLeader_36 (by decide) (fun x36 e36 => ?_)
        refine g_iconst C dX1_wrongInLeader_38 (by decide) (fun x38 e38 => ?_)
        refine g_callV C r mv_X1_26 dX1_wrongInLeader_39 (c_X1_wrongDigit g.l E h b f sz pl S P x36 x38 (12) 5 hS hP hPS hSm (by omega) (by omega) (by omega)) (wr := []) (As := [.int x36, .int x38]) (rest := []) (Spl.at [] [0, 1] rfl rfl rfl) 0 rfl rfl rfl rfl (Nat.le_of_ble_eq_true rfl) (by decide) (by omega) (by omega) (fun v w h => ?_)
        obtain ⟨x39, rfl, e39, rfl⟩ := h
        change G E g [(h, .inr (3, [.ref b, .int sz, .int pl])), (b, aB E (1500) (f))] _ _ _ _ [.int x39]
        refine g_istore_n C dX1_wrongInLeader_42 (by omega) (lv' := [(2, .int x39), (0, .ref h), (1, .int x)]) rfl ?_
        refine g_iload_n C dX1_wrongInLeader_43 0 rfl ?_
        refine g_iconst C dX1_wrongInLeader_44 (by decide) (fun x44 e44 => ?_)
        refine g_icmp_eq C 50 dX1_wrongInLeader_45 (by decide) (fun c45 => ?_) (fun c45 => ?_)
        · refine g_aload_n C dX1_wrongInLeader_50 1 rfl ?_
          refine g_bipush C dX1_wrongInLeader_51 (by decide) (fun x51 e51 => ?_)
          refine g_iconst C dX1_wrongInLeader_53 (by decide) (fun x53 e53 => ?_)
          refine g_callV C r mv_X1_30 dX1_wrongInLeader_54 (c_X1_number g.l E h b f sz pl S P x51 x53 (12) 5 hS hP hPS hSm (by omega) (by omega) (by decide) (by omega)) (wr := []) (As := [.int x51, .int x53]) (rest := []) (Spl.at [] [0, 1] rfl rfl rfl) 0 rfl rfl rfl rfl (Nat.le_of_ble_eq_true rfl) (by decide) (by omega) (by omega) (fun v w h => ?_)
          obtain ⟨x54, rfl, e54, rfl⟩ := h
          change G E g [(h, .inr (3, [.ref b, .int sz, .int pl])), (b, aB E (1500) (f))] _ _ _ _ [.int x54]
          refine g_istore_n C dX1_wrongInLeader_57 (by omega) (lv' := [(3, .int x54), (2, .int x39), (0, .ref h), (1, .int x)]) rfl ?_
          have hd := num5 (b := lk f P) (fr := 12) (fun j h1 h2 => nD_dig (fr := 12) (n := 5) (by omega) j h1 h2)
          have J86 : ∀ (z : Int32) (hz : (z.toInt = 1 ∧ (25 ≤ numI (lk f P) 12 5 ∧ numI (lk f P) 12 5 ≤ (all : Int) - 1 ∧ (numI (lk f P) 12 5 - 25) % 12 = 0)) ∨ (z.toInt = 0 ∧ ¬ (25 ≤ numI (lk f P) 12 5 ∧ numI (lk f P) 12 5 ≤ (all : Int) - 1 ∧ (numI (lk f P) 12 5 - 25) % 12 = 0))), G E g [(h, .inr (3, [.ref b, .int sz, .int pl])), (b, aB E (1500) (f))] 0 0 86 [(0, .ref h), (1, .int x), (3, .int x54)] [.int z] := by
            intro z hz
            refine g_istore C dX1_wrongInLeader_86 (by omega) (lv' := [(4, .int z), (0, .ref h), (1, .int x), (3, .int x54)]) rfl ?_
            refine g_iload C dX1_wrongInLeader_88 0 rfl ?_
            refine g_if_eq C 97 dX1_wrongInLeader_90 (by decide) (fun c90 => ?_) (fun c90 => ?_)
            · refine g_bipush C dX1_wrongInLeader_97 (by decide) (fun x97 e97 => ?_)
              exact g_iret C F dX1_wrongInLeader_99 rfl rfl (by omega) (by omega) (by refine ⟨_, rfl, ?_, rfl⟩; show _ = _; unfold wLead wFix; (repeat' split) <;> omega)
            · refine g_iconst C dX1_wrongInLeader_93 (by decide) (fun x93 e93 => ?_)
              refine g_goto C 99 dX1_wrongInLeader_94 (by decide) ?_
              exact g_iret C F dX1_wrongInLeader_99 rfl rfl (by omega) (by omega) (by refine ⟨_, rfl, ?_, rfl⟩; show _ = _; unfold wLead wFix; (repeat' split) <;> omega)
          refine g_iload_n C dX1_wrongInLeader_58 0 rfl ?_
          refine g_bipush C dX1_wrongInLeader_59 (by decide) (fun x59 e59 => ?_)
          refine g_icmp_lt C 85 dX1_wrongInLeader_61 (by decide) (fun c61 => ?_) (fun c61 => ?_)
          · refine g_iconst C dX1_wrongInLeader_85 (by decide) (fun x85 e85 => ?_)
            refine g_lv [2, 3, 0] (lv' := [(0, .ref h), (1, .int x), (3, .int x54)]) rfl ?_
            exact J86 (x85) (by omega)
          · refine g_iload_n C dX1_wrongInLeader_64 0 rfl ?_
            refine g_iload_n C dX1_wrongInLeader_65 3 rfl ?_
            refine g_iconst C dX1_wrongInLeader_66 (by decide) (fun x66 e66 => ?_)
            refine g_isub C dX1_wrongInLeader_67 (by omega) (fun x67 e67 => ?_)
            refine g_icmp_gt C 85 dX1_wrongInLeader_68 (by decide) (fun c68 => ?_) (fun c68 => ?_)
            · refine g_iconst C dX1_wrongInLeader_85 (by decide) (fun x85 e85 => ?_)
              refine g_lv [2, 3, 0] (lv' := [(0, .ref h), (1, .int x), (3, .int x54)]) rfl ?_
              exact J86 (x85) (by omega)
            · refine g_iload_n C dX1_wrongInLeader_71 0 rfl ?_
              refine g_bipush C dX1_wrongInLeader_72 (by decide) (fun x72 e72 => ?_)
              refine g_isub C dX1_wrongInLeader_74 (by omega) (fun x74 e74 => ?_)
              refine g_bipush C dX1_wrongInLeader_75 (by decide) (fun x75 e75 => ?_)
              refine g_irem C dX1_wrongInLeader_77 (12) (e75) (by omega) (fun x77 e77 => ?_)
              refine g_if_ne C 85 dX1_wrongInLeader_78 (by decide) (fun c78 => ?_) (fun c78 => ?_)
              · refine g_iconst C dX1_wrongInLeader_85 (by decide) (fun x85 e85 => ?_)
                refine g_lv [2, 3, 0] (lv' := [(0, .ref h), (1, .int x), (3, .int x54)]) rfl ?_
                exact J86 (x85) (by omega)
              · refine g_iconst C dX1_wrongInLeader_81 (by decide) (fun x81 e81 => ?_)
                refine g_goto C 86 dX1_wrongInLeader_82 (by decide) ?_
                refine g_lv [2, 3, 0] (lv' := [(0, .ref h), (1, .int x), (3, .int x54)]) rfl ?_
                exact J86 (x81) (by omega)
        · refine g_iload_n C dX1_wrongInLeader_48 0 rfl ?_
          exact g_iret C F dX1_wrongInLeader_49 rfl rfl (by omega) (by omega) (by refine ⟨_, rfl, ?_, rfl⟩; show _ = _; unfold wLead wFix; (repeat' split) <;> omega)
      · refine g_iload_n C dX1_wrongInLeader_8 2 rfl ?_
        refine g_callN C r mn_X1_40 dX1_wrongInLeader_9 (c_X3_fixedByte g.l E n2) (wr := [(h, .inr (3, [.ref b, .int sz, .int pl])), (b, aB E (1500) (f))]) (As := [.int n2]) (rest := []) (Spl.at [0, 1] [] rfl rfl rfl) rfl (Nat.le_of_ble_eq_true rfl) (by decide) (by omega) (by omega) (fun v w h => ?_)
        obtain ⟨x9, rfl, e9, rfl⟩ := h
        change G E g [(h, .inr (3, [.ref b, .int sz, .int pl])), (b, aB E (1500) (f))] _ _ _ _ [.int x9]
        refine g_istore_n C dX1_wrongInLeader_12 (by omega) (lv' := [(3, .int x9), (0, .ref h), (1, .int x), (2, .int n2)]) rfl ?_
        refine g_iload_n C dX1_wrongInLeader_13 0 rfl ?_
        refine g_iconst C dX1_wrongInLeader_14 (by decide) (fun x14 e14 => ?_)
        refine g_icmp_eq C 29 dX1_wrongInLeader_15 (by decide) (fun c15 => ?_) (fun c15 => ?_)
        · refine g_iinc C dX1_wrongInLeader_29 3 rfl (by omega) (by decide) (by omega) (fun x29 e29 => ?_)
          refine g_lvE (lv' := [(2, .int x29), (3, .int x9), (0, .ref h), (1, .int x)]) rfl ?_
          refine g_goto C 2 dX1_wrongInLeader_32 (by decide) ?_
          refine g_lv [2, 3, 0] (lv' := [(0, .ref h), (1, .int x), (2, .int x29)]) rfl ?_
          exact ih2 (x29) (k + 1) (by omega) (by omega) (by omega) (by omega) (by omega) (by omega) (by omega)
        · refine g_aload_n C dX1_wrongInLeader_18 1 rfl ?_
          refine g_iload_n C dX1_wrongInLeader_19 3 rfl ?_
          refine g_callV C r mv_X1_22 dX1_wrongInLeader_20 (c_X1_at' g.l E h b f sz pl S P n2 (k) hS hP hPS hSm (by omega) (by omega)) (wr := []) (As := [.int n2]) (rest := []) (Spl.at [] [0, 1] rfl rfl rfl) 0 rfl rfl rfl rfl (Nat.le_of_ble_eq_true rfl) (by decide) (by omega) (by omega) (fun v w h => ?_)
          obtain ⟨x20, rfl, e20, rfl⟩ := h
          change G E g [(h, .inr (3, [.ref b, .int sz, .int pl])), (b, aB E (1500) (f))] _ _ _ _ [.int x20]
          have := hb8 (k)
          refine g_iload_n C dX1_wrongInLeader_23 0 rfl ?_
          refine g_icmp_eq C 29 dX1_wrongInLeader_24 (by decide) (fun c24 => ?_) (fun c24 => ?_)
          · refine g_iinc C dX1_wrongInLeader_29 3 rfl (by omega) (by decide) (by omega) (fun x29 e29 => ?_)
            refine g_lvE (lv' := [(2, .int x29), (3, .int x9), (0, .ref h), (1, .int x)]) rfl ?_
            refine g_goto C 2 dX1_wrongInLeader_32 (by decide) ?_
            refine g_lv [2, 3, 0] (lv' := [(0, .ref h), (1, .int x), (2, .int x29)]) rfl ?_
            exact ih2 (x29) (k + 1) (by omega) (by omega) (by omega) (by omega) (by omega) (by omega) (by omega)
          · refine g_iload_n C dX1_wrongInLeader_27 3 rfl ?_
            exact g_iret C F dX1_wrongInLeader_28 rfl rfl (by omega) (by omega) (by refine ⟨_, rfl, ?_, rfl⟩; show _ = _; unfold wLead wFix; (repeat' split) <;> omega)
  refine g_lv [1, 2, 0] (lv' := [(0, .ref h), (1, .int x), (2, .int x0)]) rfl ?_
  exact loop2 _ (x0) (0) (Nat.lt_succ_self _) (by omega) (by omega) (by omega) (by omega) (by omega) (by omega)
set_option maxHeartbeats 1000000 in
set_option maxRecDepth 10000 in
theorem c_X1_wrongInRow (l : Launch) (E : GE) (h b : Nat) (f : Nat → Int32) (sz pl : Int32) (S P : Nat) (x y z : Int32) (row base all : Nat) (hS : sz.toInt = (S : Int)) (hP : pl.toInt = (P : Int)) (hPS : P ≤ S) (hSm : S ≤ 1500) (hx : x.toInt = (row : Int)) (hy : y.toInt = (base : Int)) (hz : z.toInt = (all : Int)) (hr : row + 12 ≤ S - P) (hb1 : base ≤ S - P) (hal : all ≤ S - P) (ha0 : 1 ≤ all) : Ctr l E yX1_wrongInRow cX1_wrongInRow 10 (some .int) 3 (0) (0) [.ref h, .int x, .int y, .int z] [(h, .inr (3, [.ref b, .int sz, .int pl])), (b, aB E (1500) (f))] (oI (fun r => r.toInt = wRow (lk f P) row base all) [(h, .inr (3, [.ref b, .int sz, .int pl])), (b, aB E (1500) (f))]) := by
  refine Ctr.intro (by decide) (Nat.le_of_ble_eq_true rfl) (fun g hgl hN C r F hi => ?_)
  subst hgl
  have hb8 := lk_lt f P
  change G E g [(h, .inr (3, [.ref b, .int sz, .int pl])), (b, aB E (1500) (f))] 0 0 0 [(0, .ref h), (1, .int x), (2, .int y), (3, .int z)] []
  refine g_aload_n C dX1_wrongInRow_0 0 rfl ?_
  refine g_iload_n C dX1_wrongInRow_1 1 rfl ?_
  refine g_bipush C dX1_wrongInRow_2 (by decide) (fun x2 e2 => ?_)
  refine g_callV C r mv_X1_26 dX1_wrongInRow_4 (c_X1_wrongDigit g.l E h b f sz pl S P x x2 (row) 12 hS hP hPS hSm (by omega) (by omega) (by omega)) (wr := []) (As := [.int x, .int x2]) (rest := []) (Spl.at [] [0, 1] rfl rfl rfl) 0 rfl rfl rfl rfl (Nat.le_of_ble_eq_true rfl) (by decide) (by omega) (by omega) (fun v w h => ?_)
  obtain ⟨x4, rfl, e4, rfl⟩ := h
  change G E g [(h, .inr (3, [.ref b, .int sz, .int pl])), (b, aB E (1500) (f))] _ _ _ _ [.int x4]
  refine g_istore C dX1_wrongInRow_7 (by omega) (lv' := [(4, .int x4), (0, .ref h), (1, .int x), (2, .int y), (3, .int z)]) rfl ?_
  refine g_iload C dX1_wrongInRow_9 0 rfl ?_
  refine g_iconst C dX1_wrongInRow_11 (by decide) (fun x11 e11 => ?_)
  refine g_icmp_eq C 18 dX1_wrongInRow_12 (by decide) (fun c12 => ?_) (fun c12 => ?_)
  · have hd := nD_dig (b := lk f P) (fr := row) (n := 12) (by omega)
    have hn3 := num3 (b := lk f P) (fr := row) (fun j h1 h2 => hd j (by omega) (by omega))
    have hn4 := num4 (b := lk f P) (fr := row + 3) (fun j h1 h2 => hd j (by omega) (by omega))
    have hn5 := num5 (b := lk f P) (fr := row + 7) (fun j h1 h2 => hd j (by omega) (by omega))
    refine g_aload_n C dX1_wrongInRow_18 1 rfl ?_
    refine g_iload_n C dX1_wrongInRow_19 2 rfl ?_
    refine g_iconst C dX1_wrongInRow_20 (by decide) (fun x20 e20 => ?_)
    refine g_callV C r mv_X1_30 dX1_wrongInRow_21 (c_X1_number g.l E h b f sz pl S P x x20 (row) 3 hS hP hPS hSm (by omega) (by omega) (by decide) (by omega)) (wr := []) (As := [.int x, .int x20]) (rest := []) (Spl.at [] [0, 1] rfl rfl rfl) 0 rfl rfl rfl rfl (Nat.le_of_ble_eq_true rfl) (by decide) (by omega) (by omega) (fun v w h => ?_)
    obtain ⟨x21, rfl, e21, rfl⟩ := h
    change G E g [(h, .inr (3, [.ref b, .int sz, .int pl])), (b, aB E (1500) (f))] _ _ _ _ [.int x21]
    refine g_callN C r mn_X1_43 dX1_wrongInRow_24 (c_X3_isControl g.l E x21) (wr := [(h, .inr (3, [.ref b, .int sz, .int pl])), (b, aB E (1500) (f))]) (As := [.int x21]) (rest := []) (Spl.at [0, 1] [] rfl rfl rfl) rfl (Nat.le_of_ble_eq_true rfl) (by decide) (by omega) (by omega) (fun v w h => ?_)
    obtain ⟨x24, rfl, e24, rfl⟩ := h
    change G E g [(h, .inr (3, [.ref b, .int sz, .int pl])), (b, aB E (1500) (f))] _ _ _ _ [.int x24]
    refine g_istore C dX1_wrongInRow_27 (by omega) (lv' := [(5, .int x24), (4, .int x4), (0, .ref h), (1, .int x), (2, .int y), (3, .int z)]) rfl ?_
    refine g_aload_n C dX1_wrongInRow_29 2 rfl ?_
    refine g_iload_n C dX1_wrongInRow_30 3 rfl ?_
    refine g_iconst C dX1_wrongInRow_31 (by decide) (fun x31 e31 => ?_)
    refine g_iadd C dX1_wrongInRow_32 (by omega) (fun x32 e32 => ?_)
    refine g_iconst C dX1_wrongInRow_33 (by decide) (fun x33 e33 => ?_)
    refine g_callV C r mv_X1_30 dX1_wrongInRow_34 (c_X1_number g.l E h b f sz pl S P x32 x33 (row + 3) 4 hS hP hPS hSm (by omega) (by omega) (by decide) (by omega)) (wr := []) (As := [.int x32, .int x33]) (rest := []) (Spl.at [] [0, 1] rfl rfl rfl) 0 rfl rfl rfl rfl (Nat.le_of_ble_eq_true rfl) (by decide) (by omega) (by omega) (fun v w h => ?_)
    obtain ⟨x34, rfl, e34, rfl⟩ := h
    change G E g [(h, .inr (3, [.ref b, .int sz, .int pl])), (b, aB E (1500) (f))] _ _ _ _ [.int x34]
    refine g_istore C dX1_wrongInRow_37 (by omega) (lv' := [(6, .int x34), (5, .int x24), (4, .int x4), (0, .ref h), (1, .int x), (2, .int y), (3, .int z)]) rfl ?_
    refine g_iload_n C dX1_wrongInRow_39 5 rfl ?_
    refine g_aload_n C dX1_wrongInRow_40 3 rfl ?_
    refine g_iload_n C dX1_wrongInRow_41 4 rfl ?_
    refine g_bipush C dX1_wrongInRow_42 (by decide) (fun x42 e42 => ?_)
    refine g_iadd C dX1_wrongInRow_44 (by omega) (fun x44 e44 => ?_)
    refine g_iconst C dX1_wrongInRow_45 (by decide) (fun x45 e45 => ?_)
    refine g_callV C r mv_X1_30 dX1_wrongInRow_46 (c_X1_number g.l E h b f sz pl S P x44 x45 (row + 7) 5 hS hP hPS hSm (by omega) (by omega) (by decide) (by omega)) (wr := []) (As := [.int x44, .int x45]) (rest := [.int y]) (Spl.at [] [0, 1] rfl rfl rfl) 0 rfl rfl rfl rfl (Nat.le_of_ble_eq_true rfl) (by decide) (by omega) (by omega) (fun v w h => ?_)
    obtain ⟨x46, rfl, e46, rfl⟩ := h
    change G E g [(h, .inr (3, [.ref b, .int sz, .int pl])), (b, aB E (1500) (f))] _ _ _ _ [.int x46, .int y]
    refine g_iadd C dX1_wrongInRow_49 (by omega) (fun x49 e49 => ?_)
    refine g_istore C dX1_wrongInRow_50 (by omega) (lv' := [(7, .int x49), (6, .int x34), (5, .int x24), (4, .int x4), (0, .ref h), (1, .int x), (2, .int y), (3, .int z)]) rfl ?_
    have J62 : ∀ (z8 : Int32) (hz8 : (x24.toInt = 1 ∧ z8.toInt = 1) ∨ (x24.toInt = 0 ∧ z8.toInt = 3)), G E g [(h, .inr (3, [.ref b, .int sz, .int pl])), (b, aB E (1500) (f))] 0 0 62 [(0, .ref h), (1, .int x), (2, .int y), (3, .int z), (5, .int x24), (6, .int x34), (7, .int x49)] [.int z8] := by
      intro z8 hz8
      refine g_istore C dX1_wrongInRow_62 (by omega) (lv' := [(8, .int z8), (0, .ref h), (1, .int x), (2, .int y), (3, .int z), (5, .int x24), (6, .int x34), (7, .int x49)]) rfl ?_
      refine g_iload C dX1_wrongInRow_64 6 rfl ?_
      refine g_iload C dX1_wrongInRow_66 0 rfl ?_
      refine g_icmp_lt C 82 dX1_wrongInRow_68 (by decide) (fun c68 => ?_) (fun c68 => ?_)
      · refine g_iload_n C dX1_wrongInRow_82 2 rfl ?_
        refine g_iconst C dX1_wrongInRow_83 (by decide) (fun x83 e83 => ?_)
        refine g_iadd C dX1_wrongInRow_84 (by omega) (fun x84 e84 => ?_)
        exact g_iret C F dX1_wrongInRow_85 rfl rfl (by omega) (by omega) (by refine ⟨_, rfl, ?_, rfl⟩; show _ = _; unfold wRow; (repeat' split) <;> omega)
      · refine g_iload C dX1_wrongInRow_71 7 rfl ?_
        refine g_iload C dX1_wrongInRow_73 6 rfl ?_
        refine g_iadd C dX1_wrongInRow_75 (by omega) (fun x75 e75 => ?_)
        refine g_iload_n C dX1_wrongInRow_76 4 rfl ?_
        refine g_iconst C dX1_wrongInRow_77 (by decide) (fun x77 e77 => ?_)
        refine g_isub C dX1_wrongInRow_78 (by omega) (fun x78 e78 => ?_)
        refine g_icmp_le C 86 dX1_wrongInRow_79 (by decide) (fun c79 => ?_) (fun c79 => ?_)
        · refine g_iload C dX1_wrongInRow_86 7 rfl ?_
          refine g_iload C dX1_wrongInRow_88 6 rfl ?_
          refine g_iadd C dX1_wrongInRow_90 (by omega) (fun x90 e90 => ?_)
          refine g_iconst C dX1_wrongInRow_91 (by decide) (fun x91 e91 => ?_)
          refine g_isub C dX1_wrongInRow_92 (by omega) (fun x92 e92 => ?_)
          refine g_istore C dX1_wrongInRow_93 (by omega) (lv' := [(9, .int x92), (8, .int z8), (0, .ref h), (1, .int x), (2, .int y), (3, .int z), (5, .int x24), (6, .int x34), (7, .int x49)]) rfl ?_
          refine g_iload C dX1_wrongInRow_95 6 rfl ?_
          refine g_if_eq C 111 dX1_wrongInRow_97 (by decide) (fun c97 => ?_) (fun c97 => ?_)
          · refine g_aload_n C dX1_wrongInRow_111 2 rfl ?_
            refine g_iload C dX1_wrongInRow_112 8 rfl ?_
            refine g_iload C dX1_wrongInRow_114 0 rfl ?_
            refine g_callV C r mv_X1_50 dX1_wrongInRow_116 (c_X1_wrongInOtherField g.l E h b f sz pl S P x49 x92 (base + (numI (lk f P) (row + 7) 5).toNat) (base + (numI (lk f P) (row + 7) 5).toNat + (numI (lk f P) (row + 3) 4).toNat - 1) hS hP hPS hSm (by omega) (by omega) (by omega) (by omega)) (wr := []) (As := [.int x49, .int x92]) (rest := []) (Spl.at [] [0, 1] rfl rfl rfl) 0 rfl rfl rfl rfl (Nat.le_of_ble_eq_true rfl) (by decide) (by omega) (by omega) (fun v w h => ?_)
            obtain ⟨x116, rfl, e116, rfl⟩ := h
            change G E g [(h, .inr (3, [.ref b, .int sz, .int pl])), (b, aB E (1500) (f))] _ _ _ _ [.int x116]
            exact g_iret C F dX1_wrongInRow_119 rfl rfl (by omega) (by omega) (by refine ⟨_, rfl, ?_, rfl⟩; show _ = _; unfold wRow; (repeat' split) <;> omega)
          · refine g_aload_n C dX1_wrongInRow_100 2 rfl ?_
            refine g_iload C dX1_wrongInRow_101 8 rfl ?_
            refine g_iload C dX1_wrongInRow_103 0 rfl ?_
            refine g_callV C r mv_X1_47 dX1_wrongInRow_105 (c_X1_wrongInControlField g.l E h b f sz pl S P x49 x92 (base + (numI (lk f P) (row + 7) 5).toNat) (base + (numI (lk f P) (row + 7) 5).toNat + (numI (lk f P) (row + 3) 4).toNat - 1) hS hP hPS hSm (by omega) (by omega) (by omega) (by omega)) (wr := []) (As := [.int x49, .int x92]) (rest := []) (Spl.at [] [0, 1] rfl rfl rfl) 0 rfl rfl rfl rfl (Nat.le_of_ble_eq_true rfl) (by decide) (by omega) (by omega) (fun v w h => ?_)
            obtain ⟨x105, rfl, e105, rfl⟩ := h
            change G E g [(h, .inr (3, [.ref b, .int sz, .int pl])), (b, aB E (1500) (f))] _ _ _ _ [.int x105]
            refine g_goto C 119 dX1_wrongInRow_108 (by decide) ?_
            exact g_iret C F dX1_wrongInRow_119 rfl rfl (by omega) (by omega) (by refine ⟨_, rfl, ?_, rfl⟩; show _ = _; unfold wRow; (repeat' split) <;> omega)
        · refine g_iload_n C dX1_wrongInRow_82 2 rfl ?_
          refine g_iconst C dX1_wrongInRow_83 (by decide) (fun x83 e83 => ?_)
          refine g_iadd C dX1_wrongInRow_84 (by omega) (fun x84 e84 => ?_)
          exact g_iret C F dX1_wrongInRow_85 rfl rfl (by omega) (by omega) (by refine ⟨_, rfl, ?_, rfl⟩; show _ = _; unfold wRow; (repeat' split) <;> omega)
    refine g_iload C dX1_wrongInRow_52 2 rfl ?_
    refine g_if_eq C 61 dX1_wrongInRow_54 (by decide) (fun c54 => ?_) (fun c54 => ?_)
    · refine g_iconst C dX1_wrongInRow_61 (by decide) (fun x61 e61 => ?_)
      refine g_lv [4, 5, 6, 7, 2, 1, 0] (lv' := [(0, .ref h), (1, .int x), (2, .int y), (3, .int z), (5, .int x24), (6, .int x34), (7, .int x49)]) rfl ?_
      exact J62 (x61) (by omega)
    · refine g_iconst C dX1_wrongInRow_57 (by decide) (fun x57 e57 => ?_)
      refine g_goto C 62 dX1_wrongInRow_58 (by decide) ?_
      refine g_lv [4, 5, 6, 7, 2, 1, 0] (lv' := [(0, .ref h), (1, .int x), (2, .int y), (3, .int z), (5, .int x24), (6, .int x34), (7, .int x49)]) rfl ?_
      exact J62 (x57) (by omega)
  · refine g_iload C dX1_wrongInRow_15 0 rfl ?_
    exact g_iret C F dX1_wrongInRow_17 rfl rfl (by omega) (by omega) (by refine ⟨_, rfl, ?_, rfl⟩; show _ = _; unfold wRow; (repeat' split) <;> omega)
set_option maxHeartbeats 1000000 in
set_option maxRecDepth 10000 in
theorem c_X1_wrongInRecord (l : Launch) (E : GE) (h b : Nat) (f : Nat → Int32) (sz pl : Int32) (S P : Nat) (x : Int32) (all : Nat) (hS : sz.toInt = (S : Int)) (hP : pl.toInt = (P : Int)) (hPS : P ≤ S) (hSm : S ≤ 1500) (hx : x.toInt = (all : Int)) (hl : 26 ≤ all) (hl2 : all ≤ S - P) : Ctr l E yX1_wrongInRecord cX1_wrongInRecord 6 (some .int) 4 (0) (0) [.ref h, .int x] [(h, .inr (3, [.ref b, .int sz, .int pl])), (b, aB E (1500) (f))] (oI (fun r => r.toInt = wRec (lk f P) all) [(h, .inr (3, [.ref b, .int sz, .int pl])), (b, aB E (1500) (f))]) := by
  refine Ctr.intro (by decide) (Nat.le_of_ble_eq_true rfl) (fun g hgl hN C r F hi => ?_)
  subst hgl
  have hb8 := lk_lt f P
  change G E g [(h, .inr (3, [.ref b, .int sz, .int pl])), (b, aB E (1500) (f))] 0 0 0 [(0, .ref h), (1, .int x)] []
  refine g_aload_n C dX1_wrongInRecord_0 0 rfl ?_
  refine g_iload_n C dX1_wrongInRecord_1 1 rfl ?_
  refine g_callV C r mv_X1_33 dX1_wrongInRecord_2 (c_X1_wrongInLeader g.l E h b f sz pl S P x all hS hP hPS hSm (by omega) (by omega) (by omega)) (wr := []) (As := [.int x]) (rest := []) (Spl.at [] [0, 1] rfl rfl rfl) 0 rfl rfl rfl rfl (Nat.le_of_ble_eq_true rfl) (by decide) (by omega) (by omega) (fun v w h => ?_)
  obtain ⟨x2, rfl, e2, rfl⟩ := h
  change G E g [(h, .inr (3, [.ref b, .int sz, .int pl])), (b, aB E (1500) (f))] _ _ _ _ [.int x2]
  refine g_istore_n C dX1_wrongInRecord_5 (by omega) (lv' := [(2, .int x2), (0, .ref h), (1, .int x)]) rfl ?_
  refine g_iload_n C dX1_wrongInRecord_6 0 rfl ?_
  refine g_iconst C dX1_wrongInRecord_7 (by decide) (fun x7 e7 => ?_)
  refine g_icmp_eq C 13 dX1_wrongInRecord_8 (by decide) (fun c8 => ?_) (fun c8 => ?_)
  · have hld := wLead_ok (b := lk f P) (all := all) (by omega)
    refine g_aload_n C dX1_wrongInRecord_13 1 rfl ?_
    refine g_bipush C dX1_wrongInRecord_14 (by decide) (fun x14 e14 => ?_)
    refine g_iconst C dX1_wrongInRecord_16 (by decide) (fun x16 e16 => ?_)
    refine g_callV C r mv_X1_30 dX1_wrongInRecord_17 (c_X1_number g.l E h b f sz pl S P x14 x16 (12) 5 hS hP hPS hSm (by omega) (by omega) (by decide) (by omega)) (wr := []) (As := [.int x14, .int x16]) (rest := []) (Spl.at [] [0, 1] rfl rfl rfl) 0 rfl rfl rfl rfl (Nat.le_of_ble_eq_true rfl) (by decide) (by omega) (by omega) (fun v w h => ?_)
    obtain ⟨x17, rfl, e17, rfl⟩ := h
    change G E g [(h, .inr (3, [.ref b, .int sz, .int pl])), (b, aB E (1500) (f))] _ _ _ _ [.int x17]
    refine g_istore_n C dX1_wrongInRecord_20 (by omega) (lv' := [(3, .int x17), (2, .int x2), (0, .ref h), (1, .int x)]) rfl ?_
    refine g_aload_n C dX1_wrongInRecord_21 2 rfl ?_
    refine g_iload_n C dX1_wrongInRecord_22 0 rfl ?_
    refine g_iconst C dX1_wrongInRecord_23 (by decide) (fun x23 e23 => ?_)
    refine g_isub C dX1_wrongInRecord_24 (by omega) (fun x24 e24 => ?_)
    refine g_callV C r mv_X1_22 dX1_wrongInRecord_25 (c_X1_at' g.l E h b f sz pl S P x24 ((numI (lk f P) 12 5).toNat - 1) hS hP hPS hSm (by omega) (by omega)) (wr := []) (As := [.int x24]) (rest := []) (Spl.at [] [0, 1] rfl rfl rfl) 0 rfl rfl rfl rfl (Nat.le_of_ble_eq_true rfl) (by decide) (by omega) (by omega) (fun v w h => ?_)
    obtain ⟨x25, rfl, e25, rfl⟩ := h
    change G E g [(h, .inr (3, [.ref b, .int sz, .int pl])), (b, aB E (1500) (f))] _ _ _ _ [.int x25]
    have := hb8 ((numI (lk f P) 12 5).toNat - 1)
    refine g_bipush C dX1_wrongInRecord_28 (by decide) (fun x28 e28 => ?_)
    refine g_icmp_eq C 37 dX1_wrongInRecord_30 (by decide) (fun c30 => ?_) (fun c30 => ?_)
    · refine g_aload_n C dX1_wrongInRecord_37 2 rfl ?_
      refine g_iload_n C dX1_wrongInRecord_38 3 rfl ?_
      refine g_iconst C dX1_wrongInRecord_39 (by decide) (fun x39 e39 => ?_)
      refine g_isub C dX1_wrongInRecord_40 (by omega) (fun x40 e40 => ?_)
      refine g_callV C r mv_X1_22 dX1_wrongInRecord_41 (c_X1_at' g.l E h b f sz pl S P x40 (all - 1) hS hP hPS hSm (by omega) (by omega)) (wr := []) (As := [.int x40]) (rest := []) (Spl.at [] [0, 1] rfl rfl rfl) 0 rfl rfl rfl rfl (Nat.le_of_ble_eq_true rfl) (by decide) (by omega) (by omega) (fun v w h => ?_)
      obtain ⟨x41, rfl, e41, rfl⟩ := h
      change G E g [(h, .inr (3, [.ref b, .int sz, .int pl])), (b, aB E (1500) (f))] _ _ _ _ [.int x41]
      have := hb8 (all - 1)
      refine g_bipush C dX1_wrongInRecord_44 (by decide) (fun x44 e44 => ?_)
      refine g_icmp_eq C 53 dX1_wrongInRecord_46 (by decide) (fun c46 => ?_) (fun c46 => ?_)
      · refine g_iload_n C dX1_wrongInRecord_53 0 rfl ?_
        refine g_bipush C dX1_wrongInRecord_54 (by decide) (fun x54 e54 => ?_)
        refine g_isub C dX1_wrongInRecord_56 (by omega) (fun x56 e56 => ?_)
        refine g_bipush C dX1_wrongInRecord_57 (by decide) (fun x57 e57 => ?_)
        refine g_idiv C dX1_wrongInRecord_59 (12) (e57) (by omega) (fun x59 e59 => ?_)
        refine g_istore C dX1_wrongInRecord_60 (by omega) (lv' := [(4, .int x59), (3, .int x17), (2, .int x2), (0, .ref h), (1, .int x)]) rfl ?_
        refine g_iload C dX1_wrongInRecord_62 0 rfl ?_
        refine g_bipush C dX1_wrongInRecord_64 (by decide) (fun x64 e64 => ?_)
        refine g_icmp_le C 72 dX1_wrongInRecord_66 (by decide) (fun c66 => ?_) (fun c66 => ?_)
        · refine g_iconst C dX1_wrongInRecord_72 (by decide) (fun x72 e72 => ?_)
          refine g_istore C dX1_wrongInRecord_73 (by omega) (lv' := [(5, .int x72), (4, .int x59), (3, .int x17), (2, .int x2), (0, .ref h), (1, .int x)]) rfl ?_
          have loop75 : ∀ (n : Nat) (n5 : Int32) (n2 : Int32) (k : Nat) (hm : ((numI (lk f P) 12 5 - 25) / 12).toNat - k < n) (hk : k ≤ ((numI (lk f P) 12 5 - 25) / 12).toNat) (hp : n5.toInt = (k : Int)) (hn : (n2.toInt = -1 ∧ fRow (lk f P) (numI (lk f P) 12 5).toNat all 0 ((numI (lk f P) 12 5 - 25) / 12).toNat = fRow (lk f P) (numI (lk f P) 12 5).toNat all k (((numI (lk f P) 12 5 - 25) / 12).toNat - k)) ∨ (n2.toInt ≠ -1 ∧ n2.toInt = fRow (lk f P) (numI (lk f P) 12 5).toNat all 0 ((numI (lk f P) 12 5 - 25) / 12).toNat)), G E g [(h, .inr (3, [.ref b, .int sz, .int pl])), (b, aB E (1500) (f))] 0 0 75 [(0, .ref h), (1, .int x), (2, .int n2), (3, .int x17), (4, .int x59), (5, .int n5)] [] := by
            intro n
            induction n with
            | zero => intro n5 n2 k hm hk hp hn; omega
            | succ n ih75 =>
              intro n5 n2 k hm hk hp hn
              refine g_iload C dX1_wrongInRecord_75 5 rfl ?_
              refine g_iload C dX1_wrongInRecord_77 4 rfl ?_
              refine g_icmp_ge C 108 dX1_wrongInRecord_79 (by decide) (fun c79 => ?_) (fun c79 => ?_)
              · refine g_iload_n C dX1_wrongInRecord_108 2 rfl ?_
                exact g_iret C F dX1_wrongInRecord_109 rfl rfl (by omega) (by omega) (by refine ⟨_, rfl, ?_, rfl⟩; show _ = _; have h9 : n2.toInt = fRow (lk f P) (numI (lk f P) 12 5).toNat all 0 ((numI (lk f P) 12 5 - 25) / 12).toNat := rowend (by omega) hn; unfold wRec; (repeat' split) <;> omega)
              · refine g_iload_n C dX1_wrongInRecord_82 2 rfl ?_
                refine g_iconst C dX1_wrongInRecord_83 (by decide) (fun x83 e83 => ?_)
                refine g_icmp_ne C 108 dX1_wrongInRecord_84 (by decide) (fun c84 => ?_) (fun c84 => ?_)
                · refine g_iload_n C dX1_wrongInRecord_108 2 rfl ?_
                  exact g_iret C F dX1_wrongInRecord_109 rfl rfl (by omega) (by omega) (by refine ⟨_, rfl, ?_, rfl⟩; show _ = _; have h9 : n2.toInt = fRow (lk f P) (numI (lk f P) 12 5).toNat all 0 ((numI (lk f P) 12 5 - 25) / 12).toNat := rowend (by omega) hn; unfold wRec; (repeat' split) <;> omega)
                · refine g_aload_n C dX1_wrongInRecord_87 0 rfl ?_
                  refine g_bipush C dX1_wrongInRecord_88 (by decide) (fun x88 e88 => ?_)
                  refine g_bipush C dX1_wrongInRecord_90 (by decide) (fun x90 e90 => ?_)
                  refine g_iload C dX1_wrongInRecord_92 5 rfl ?_
                  refine g_imul C dX1_wrongInRecord_94 (12 * n5.toInt) (by rw [e90]) (by omega) (fun x94 e94 => ?_)
                  refine g_iadd C dX1_wrongInRecord_95 (by omega) (fun x95 e95 => ?_)
                  refine g_iload_n C dX1_wrongInRecord_96 3 rfl ?_
                  refine g_iload_n C dX1_wrongInRecord_97 1 rfl ?_
                  refine g_callV C r mv_X1_36 dX1_wrongInRecord_98 (c_X1_wrongInRow g.l E h b f sz pl S P x95 x17 x (24 + 12 * k) (numI (lk f P) 12 5).toNat all hS hP hPS hSm (by omega) (by omega) (by omega) (by omega) (by omega) (by omega) (by omega)) (wr := []) (As := [.int x95, .int x17, .int x]) (rest := []) (Spl.at [] [0, 1] rfl rfl rfl) 0 rfl rfl rfl rfl (Nat.le_of_ble_eq_true rfl) (by decide) (by omega) (by omega) (fun v w h => ?_)
                  obtain ⟨x98, rfl, e98, rfl⟩ := h
                  change G E g [(h, .inr (3, [.ref b, .int sz, .int pl])), (b, aB E (1500) (f))] _ _ _ _ [.int x98]
                  refine g_istore_n C dX1_wrongInRecord_101 (by omega) (lv' := [(2, .int x98), (0, .ref h), (1, .int x), (3, .int x17), (4, .int x59), (5, .int n5)]) rfl ?_
                  refine g_iinc C dX1_wrongInRecord_102 5 rfl (by omega) (by decide) (by omega) (fun x102 e102 => ?_)
                  refine g_lvE (lv' := [(5, .int x102), (2, .int x98), (0, .ref h), (1, .int x), (3, .int x17), (4, .int x59)]) rfl ?_
                  refine g_goto C 75 dX1_wrongInRecord_105 (by decide) ?_
                  refine g_lv [2, 3, 1, 4, 5, 0] (lv' := [(0, .ref h), (1, .int x), (2, .int x98), (3, .int x17), (4, .int x59), (5, .int x102)]) rfl ?_
                  exact ih75 (x102) (x98) (k + 1) (by omega) (by omega) (by omega) (by exact rowstep hn (by omega) (by omega) e98)
          refine g_lv [4, 5, 3, 2, 1, 0] (lv' := [(0, .ref h), (1, .int x), (2, .int x2), (3, .int x17), (4, .int x59), (5, .int x72)]) rfl ?_
          exact loop75 _ (x72) (x2) (0) (Nat.lt_succ_self _) (by omega) (by omega) (by exact Or.inl ⟨by omega, rfl⟩)
        · refine g_bipush C dX1_wrongInRecord_69 (by decide) (fun x69 e69 => ?_)
          exact g_iret C F dX1_wrongInRecord_71 rfl rfl (by omega) (by omega) (by refine ⟨_, rfl, ?_, rfl⟩; show _ = _; unfold wRec; (repeat' split) <;> omega)
      · refine g_iload_n C dX1_wrongInRecord_49 3 rfl ?_
        refine g_iconst C dX1_wrongInRecord_50 (by decide) (fun x50 e50 => ?_)
        refine g_isub C dX1_wrongInRecord_51 (by omega) (fun x51 e51 => ?_)
        exact g_iret C F dX1_wrongInRecord_52 rfl rfl (by omega) (by omega) (by refine ⟨_, rfl, ?_, rfl⟩; show _ = _; unfold wRec; (repeat' split) <;> omega)
    · refine g_iload_n C dX1_wrongInRecord_33 0 rfl ?_
      refine g_iconst C dX1_wrongInRecord_34 (by decide) (fun x34 e34 => ?_)
      refine g_isub C dX1_wrongInRecord_35 (by omega) (fun x35 e35 => ?_)
      exact g_iret C F dX1_wrongInRecord_36 rfl rfl (by omega) (by omega) (by refine ⟨_, rfl, ?_, rfl⟩; show _ = _; unfold wRec; (repeat' split) <;> omega)
  · refine g_iload_n C dX1_wrongInRecord_11 0 rfl ?_
    exact g_iret C F dX1_wrongInRecord_12 rfl rfl (by omega) (by omega) (by refine ⟨_, rfl, ?_, rfl⟩; show _ = _; unfold wRec; (repeat' split) <;> omega)
end
section
theorem kw_acopy : Cond.methodLink RJ7 150 arraycopyName ∈ GW ∧ Cond.native arraycopyName ∈ GW ∧ Cond.static arraycopyName ∈ GW ∧ Cond.initialized "java/lang/System" ∈ GW := ⟨kw1_226, kw1_228, kw1_227, kw1_8⟩
set_option maxHeartbeats 1000000 in
set_option maxRecDepth 10000 in
theorem c_J7_copyOf (l : Launch) (E : GE) (a cap : Nat) (ff : Nat → Int32) (x : Int32) (hx : x.toInt = ((2 * cap : Nat) : Int)) (hc0 : 1 ≤ cap) (hcap : cap ≤ 100000) (hBF : BF ff) : Ctr l E yJ7_copyOf_9075b cJ7_copyOf_9075b 3 (some (.array .byte)) 2 (1) (2 * cap) [.ref a, .int x] [(a, aB E (cap) (ff))] (fun v w => ∃ q : Nat, v = some (.ref q) ∧ w = [(a, aB E cap ff), (q, aB E (2 * cap) (va_cpy ff (fun _ => 0) 0 0 cap))]) := by
  refine Ctr.intro (by decide) (Nat.le_of_ble_eq_true rfl) (fun g hgl hN C r F hi => ?_)
  subst hgl
  change G E g [(a, aB E (cap) (ff))] 0 0 0 [(0, .ref a), (1, .int x)] []
  refine g_iload_n C dJ7_copyOf_9075b_0 1 rfl ?_
  refine g_aload_n C dJ7_copyOf_9075b_1 0 rfl ?_
  refine g_alenB C 0 rfl dJ7_copyOf_9075b_2 (by omega) (fun x2 e2 => ?_)
  refine g_icmp_ne C 14 dJ7_copyOf_9075b_3 (by decide) (fun c3 => ?_) (fun c3 => ?_)
  · refine g_iload_n C dJ7_copyOf_9075b_14 1 rfl ?_
    refine g_newB C r dJ7_copyOf_9075b_15 (2 * cap) (by omega) (by omega) (by omega) (by omega) (fun q15 => ?_)
    change G E g [(a, aB E (cap) (ff)), (q15, aB E (2 * cap) (fun _ => 0))] _ _ _ _ _
    refine g_astore_n C dJ7_copyOf_9075b_17 (by omega) (lv' := [(2, .ref q15), (0, .ref a), (1, .int x)]) rfl ?_
    refine g_aload_n C dJ7_copyOf_9075b_18 1 rfl ?_
    refine g_iconst C dJ7_copyOf_9075b_19 (by decide) (fun x19 e19 => ?_)
    refine g_aload_n C dJ7_copyOf_9075b_20 0 rfl ?_
    refine g_iconst C dJ7_copyOf_9075b_21 (by decide) (fun x21 e21 => ?_)
    refine g_aload_n C dJ7_copyOf_9075b_22 1 rfl ?_
    refine g_alenB C 0 rfl dJ7_copyOf_9075b_23 (by omega) (fun x23 e23 => ?_)
    refine g_iload_n C dJ7_copyOf_9075b_24 2 rfl ?_
    refine g_mmin C r (by decide) kw_minJ7 dJ7_copyOf_9075b_25 (Nat.le_of_ble_eq_true rfl) (by omega) (by omega) (fun x25 e25 => ?_)
    refine g_copyB C r (by decide) kw_acopy.1 kw_acopy.2.1 kw_acopy.2.2.1 kw_acopy.2.2.2 dJ7_copyOf_9075b_28 0 1 rfl rfl (by omega) (by omega) cap (by omega) (by omega) (by omega) hBF (Nat.le_of_ble_eq_true rfl) ?_
    change G E g [(a, aB E (cap) (ff)), (q15, aB E (2 * cap) (va_cpy ff (fun _ => 0) 0 0 cap))] _ _ _ _ _
    refine g_aload_n C dJ7_copyOf_9075b_31 0 rfl ?_
    exact g_aret C F dJ7_copyOf_9075b_32 rfl (Or.inr ⟨_, rfl⟩) (Or.inr ⟨_, rfl⟩) (by omega) (by omega) (by exact ⟨_, rfl, rfl⟩)
  · exfalso; omega
set_option maxHeartbeats 1000000 in
set_option maxRecDepth 10000 in
theorem c_J7_fill (l : Launch) (E : GE) (a n : Nat) (ff : Nat → Int32) (x : Int32) (hn : n ≤ 100000) : Ctr l E yJ7_fill_031fb cJ7_fill_031fb 4 none 0 (0) (0) [.ref a, .int x] [(a, aB E (n) (ff))] (oV [(a, aB E n (fun j => if j < n then sB (u8 x) else ff j))]) := by
  refine Ctr.intro (by decide) (Nat.le_of_ble_eq_true rfl) (fun g hgl hN C r F hi => ?_)
  subst hgl
  change G E g [(a, aB E (n) (ff))] 0 0 0 [(0, .ref a), (1, .int x)] []
  refine g_iconst C dJ7_fill_031fb_0 (by decide) (fun x0 e0 => ?_)
  refine g_istore_n C dJ7_fill_031fb_1 (by omega) (lv' := [(2, .int x0), (0, .ref a), (1, .int x)]) rfl ?_
  refine g_aload_n C dJ7_fill_031fb_2 1 rfl ?_
  refine g_alenB C 0 rfl dJ7_fill_031fb_3 (by omega) (fun x3 e3 => ?_)
  refine g_istore_n C dJ7_fill_031fb_4 (by omega) (lv' := [(3, .int x3), (2, .int x0), (0, .ref a), (1, .int x)]) rfl ?_
  have loop5 : ∀ (nn : Nat) (n2 : Int32) (fk : Nat → Int32) (k : Nat) (hm : n - k < nn) (hk : k ≤ n) (hp : n2.toInt = (k : Int)) (hf : fk = fun j => if j < k then sB (u8 x) else ff j), G E g [(a, aB E (n) (fk))] 0 0 5 [(0, .ref a), (1, .int x), (2, .int n2), (3, .int x3)] [] := by
    intro nn
    induction nn with
    | zero => intro n2 fk k hm hk hp hf; omega
    | succ nn ih5 =>
      intro n2 fk k hm hk hp hf
      refine g_iload_n C dJ7_fill_031fb_5 2 rfl ?_
      refine g_iload_n C dJ7_fill_031fb_6 3 rfl ?_
      refine g_icmp_ge C 20 dJ7_fill_031fb_7 (by decide) (fun c7 => ?_) (fun c7 => ?_)
      · exact g_vret C F dJ7_fill_031fb_20 (by omega) (by omega) (by refine ⟨rfl, ?_⟩; rw [hf, show k = n by omega])
      · refine g_aload_n C dJ7_fill_031fb_10 0 rfl ?_
        refine g_iload_n C dJ7_fill_031fb_11 2 rfl ?_
        refine g_iload_n C dJ7_fill_031fb_12 1 rfl ?_
        refine g_bastore C 0 rfl dJ7_fill_031fb_13 (k) (by omega) (by omega) ?_
        change G E g [(a, aB E (n) (upd (fk) (k) (sB (u8 x))))] _ _ _ _ _
        refine g_iinc C dJ7_fill_031fb_14 2 rfl (by omega) (by decide) (by omega) (fun x14 e14 => ?_)
        refine g_lvE (lv' := [(2, .int x14), (0, .ref a), (1, .int x), (3, .int x3)]) rfl ?_
        refine g_goto C 5 dJ7_fill_031fb_17 (by decide) ?_
        refine g_lv [1, 2, 0, 3] (lv' := [(0, .ref a), (1, .int x), (2, .int x14), (3, .int x3)]) rfl ?_
        exact ih5 (x14) (upd (fk) (k) (sB (u8 x))) (k + 1) (by omega) (by omega) (by omega) (by rw [hf]; exact fill_step _ _ _)
  refine g_lv [2, 3, 1, 0] (lv' := [(0, .ref a), (1, .int x), (2, .int x0), (3, .int x3)]) rfl ?_
  exact loop5 _ (x0) (ff) (0) (Nat.lt_succ_self _) (by omega) (by omega) (by funext j; simp)
theorem fill_pre : True := trivial
set_option maxHeartbeats 1000000 in
set_option maxRecDepth 10000 in
theorem c_X2_init (l : Launch) (E : GE) (h : Nat) (z : Int32)  : Ctr l E yX2_init cX2_init 1 none 1 (1) (256) [.ref h] [(h, .inr (4, [.null, .int z]))] (fun v w => v = none ∧ ∃ (q : Nat) (s : Int32), s.toInt = 0 ∧ w = [(h, .inr (4, [.ref q, .int s])), (q, aB E 256 (fun _ => 0))]) := by
  refine Ctr.intro (by decide) (Nat.le_of_ble_eq_true rfl) (fun g hgl hN C r F hi => ?_)
  subst hgl
  change G E g [(h, .inr (4, [.null, .int z]))] 0 0 0 [(0, .ref h)] []
  refine g_aload_n C dX2_init_0 0 rfl ?_
  refine g_objInit C r (by decide) kw1_45 dX2_init_1 (Nat.le_of_ble_eq_true rfl) ?_
  refine g_aload_n C dX2_init_4 0 rfl ?_
  refine g_sipush C dX2_init_5 (by decide) (fun x5 e5 => ?_)
  refine g_newB C r dX2_init_8 (256) (by omega) (by omega) (by omega) (by omega) (fun q8 => ?_)
  change G E g [(h, .inr (4, [.null, .int z])), (q8, aB E (256) (fun _ => 0))] _ _ _ _ _
  refine gp_X2_9 C 0 rfl (Nat.le_of_ble_eq_true rfl) rfl rfl dX2_init_10 ?_
  change G E g [(h, .inr (4, [.ref q8, .int z])), (q8, aB E (256) (fun _ => 0))] _ _ _ _ _
  refine g_aload_n C dX2_init_13 0 rfl ?_
  refine g_iconst C dX2_init_14 (by decide) (fun x14 e14 => ?_)
  refine gp_X2_13 C 0 rfl (Nat.le_of_ble_eq_true rfl) rfl rfl dX2_init_15 ?_
  change G E g [(h, .inr (4, [.ref q8, .int x14])), (q8, aB E (256) (fun _ => 0))] _ _ _ _ _
  exact g_vret C F dX2_init_18 (by omega) (by omega) (by exact ⟨rfl, _, _, by omega, rfl⟩)
set_option maxHeartbeats 1000000 in
set_option maxRecDepth 10000 in
theorem c_X2_begin (l : Launch) (E : GE) (h ob cap : Nat) (of : Nat → Int32) (os x : Int32) (t mc ms : Nat) (hx : x.toInt = (t : Int)) (ht : t ≤ 200000) (hcp : cap ≤ 200000) (hm : t ≤ cap ∨ (1 ≤ mc ∧ max t (2 * cap) ≤ ms)) : Ctr l E yX2_begin cX2_begin 2 none 1 (mc) (ms) [.ref h, .int x] [(h, .inr (4, [.ref ob, .int os])), (ob, aB E (cap) (of))] (fun v w => v = none ∧ ∃ (q n : Nat) (f2 : Nat → Int32) (s : Int32), s.toInt = 0 ∧ ((t ≤ cap ∧ n = cap) ∨ (cap < t ∧ n = max t (2 * cap))) ∧ w = [(h, .inr (4, [.ref q, .int s])), (q, aB E n f2)]) := by
  refine Ctr.intro (by decide) (Nat.le_of_ble_eq_true rfl) (fun g hgl hN C r F hi => ?_)
  subst hgl
  change G E g [(h, .inr (4, [.ref ob, .int os])), (ob, aB E (cap) (of))] 0 0 0 [(0, .ref h), (1, .int x)] []
  refine g_iload_n C dX2_begin_0 1 rfl ?_
  refine g_aload_n C dX2_begin_1 0 rfl ?_
  refine gf_X2_9 C 0 rfl rfl dX2_begin_2 ?_
  refine g_alenB C 1 rfl dX2_begin_5 (by omega) (fun x5 e5 => ?_)
  refine g_icmp_le C 26 dX2_begin_6 (by decide) (fun c6 => ?_) (fun c6 => ?_)
  · refine g_aload_n C dX2_begin_26 0 rfl ?_
    refine g_iconst C dX2_begin_27 (by decide) (fun x27 e27 => ?_)
    refine gp_X2_13 C 0 rfl (Nat.le_of_ble_eq_true rfl) rfl rfl dX2_begin_28 ?_
    change G E g [(h, .inr (4, [.ref ob, .int x27])), (ob, aB E (cap) (of))] _ _ _ _ _
    exact g_vret C F dX2_begin_31 (by omega) (by omega) (by exact ⟨rfl, _, _, _, _, by omega, by omega, rfl⟩)
  · refine g_aload_n C dX2_begin_9 0 rfl ?_
    refine g_iload_n C dX2_begin_10 1 rfl ?_
    refine g_iconst C dX2_begin_11 (by decide) (fun x11 e11 => ?_)
    refine g_aload_n C dX2_begin_12 0 rfl ?_
    refine gf_X2_9 C 0 rfl rfl dX2_begin_13 ?_
    refine g_alenB C 1 rfl dX2_begin_16 (by omega) (fun x16 e16 => ?_)
    refine g_imul C dX2_begin_17 (2 * x16.toInt) (by rw [e11]) (by omega) (fun x17 e17 => ?_)
    refine g_mmax C r (by decide) kw_maxX2 dX2_begin_18 (Nat.le_of_ble_eq_true rfl) (by omega) (by omega) (fun x18 e18 => ?_)
    refine g_newB C r dX2_begin_21 (max t (2 * cap)) (by omega) (by omega) (by omega) (by omega) (fun q21 => ?_)
    change G E g [(h, .inr (4, [.ref ob, .int os])), (ob, aB E (cap) (of)), (q21, aB E (max t (2 * cap)) (fun _ => 0))] _ _ _ _ _
    refine gp_X2_9 C 0 rfl (Nat.le_of_ble_eq_true rfl) rfl rfl dX2_begin_23 ?_
    change G E g [(h, .inr (4, [.ref q21, .int os])), (ob, aB E (cap) (of)), (q21, aB E (max t (2 * cap)) (fun _ => 0))] _ _ _ _ _
    refine g_aload_n C dX2_begin_26 0 rfl ?_
    refine g_iconst C dX2_begin_27 (by decide) (fun x27 e27 => ?_)
    refine gp_X2_13 C 0 rfl (Nat.le_of_ble_eq_true rfl) rfl rfl dX2_begin_28 ?_
    change G E g [(h, .inr (4, [.ref q21, .int x27])), (ob, aB E (cap) (of)), (q21, aB E (max t (2 * cap)) (fun _ => 0))] _ _ _ _ _
    refine g_perm [0, 2] rfl (ws' := [(h, .inr (4, [.ref q21, .int x27])), (q21, aB E (max t (2 * cap)) (fun _ => 0))]) rfl ?_
    exact g_vret C F dX2_begin_31 (by omega) (by omega) (by exact ⟨rfl, _, _, _, _, by omega, by omega, rfl⟩)
set_option maxHeartbeats 1000000 in
set_option maxRecDepth 10000 in
theorem c_X2_emit (l : Launch) (E : GE) (h ob cap : Nat) (of : Nat → Int32) (os : Int32) (o : List Nat) (x : Int32) (hos : os.toInt = (o.length : Int)) (hB : Bs of 0 o) (hcp : cap ≤ 400000) (hl : o.length < cap) : Ctr l E yX2_emit cX2_emit 2 none 0 (0) (0) [.ref h, .int x] [(h, .inr (4, [.ref ob, .int os])), (ob, aB E (cap) (of))] (fun v w => v = none ∧ ∃ (f2 : Nat → Int32) (s : Int32), s.toInt = ((o.length + 1 : Nat) : Int) ∧ Bs f2 0 (o ++ [u8 x]) ∧ w = [(h, .inr (4, [.ref ob, .int s])), (ob, aB E cap f2)]) := by
  refine Ctr.intro (by decide) (Nat.le_of_ble_eq_true rfl) (fun g hgl hN C r F hi => ?_)
  subst hgl
  change G E g [(h, .inr (4, [.ref ob, .int os])), (ob, aB E (cap) (of))] 0 0 0 [(0, .ref h), (1, .int x)] []
  refine g_aload_n C dX2_emit_0 0 rfl ?_
  refine gf_X2_13 C 0 rfl rfl dX2_emit_1 ?_
  refine g_aload_n C dX2_emit_4 0 rfl ?_
  refine gf_X2_9 C 0 rfl rfl dX2_emit_5 ?_
  refine g_alenB C 1 rfl dX2_emit_8 (by omega) (fun x8 e8 => ?_)
  refine g_icmp_ge C 33 dX2_emit_9 (by decide) (fun c9 => ?_) (fun c9 => ?_)
  · exfalso; omega
  · refine g_aload_n C dX2_emit_12 0 rfl ?_
    refine gf_X2_9 C 0 rfl rfl dX2_emit_13 ?_
    refine g_aload_n C dX2_emit_16 0 rfl ?_
    refine gf_X2_13 C 0 rfl rfl dX2_emit_17 ?_
    refine g_iload_n C dX2_emit_20 1 rfl ?_
    refine g_i2b C dX2_emit_21 (fun x21 e21 => ?_)
    refine g_bastore C 1 rfl dX2_emit_22 (0 + o.length) (by omega) (by omega) ?_
    change G E g [(h, .inr (4, [.ref ob, .int os])), (ob, aB E (cap) (upd (of) (0 + o.length) (sB (u8 x21))))] _ _ _ _ _
    refine g_aload_n C dX2_emit_23 0 rfl ?_
    refine g_dup C dX2_emit_24 rfl ?_
    refine gf_X2_13 C 0 rfl rfl dX2_emit_25 ?_
    refine g_iconst C dX2_emit_28 (by decide) (fun x28 e28 => ?_)
    refine g_iadd C dX2_emit_29 (by omega) (fun x29 e29 => ?_)
    refine gp_X2_13 C 0 rfl (Nat.le_of_ble_eq_true rfl) rfl rfl dX2_emit_30 ?_
    change G E g [(h, .inr (4, [.ref ob, .int x29])), (ob, aB E (cap) (upd (of) (0 + o.length) (sB (u8 x21))))] _ _ _ _ _
    exact g_vret C F dX2_emit_33 (by omega) (by omega) (by refine ⟨rfl, _, _, by omega, ?_, rfl⟩; rw [e21, sB_u8_sB]; exact Bs_snoc hB (u8 x))
set_option maxHeartbeats 1000000 in
set_option maxRecDepth 10000 in
theorem c_X2_emitDigits (l : Launch) (E : GE) (h ob cap : Nat) (of : Nat → Int32) (os : Int32) (o : List Nat) (x y : Int32) (num k : Nat) (hos : os.toInt = (o.length : Int)) (hB : Bs of 0 o) (hcp : cap ≤ 400000) (hx : x.toInt = (num : Int)) (hy : y.toInt = (k : Int)) (hk5 : k ≤ 100) (hl : o.length + k ≤ cap) (hnu : num < 2147483648) : Ctr l E yX2_emitDigits cX2_emitDigits 6 none 1 (0) (0) [.ref h, .int x, .int y] [(h, .inr (4, [.ref ob, .int os])), (ob, aB E (cap) (of))] (fun v w => v = none ∧ ∃ (f2 : Nat → Int32) (s : Int32), s.toInt = ((o.length + k : Nat) : Int) ∧ Bs f2 0 (o ++ dg num k) ∧ w = [(h, .inr (4, [.ref ob, .int s])), (ob, aB E cap f2)]) := by
  refine Ctr.intro (by decide) (Nat.le_of_ble_eq_true rfl) (fun g hgl hN C r F hi => ?_)
  subst hgl
  change G E g [(h, .inr (4, [.ref ob, .int os])), (ob, aB E (cap) (of))] 0 0 0 [(0, .ref h), (1, .int x), (2, .int y)] []
  refine g_iload_n C dX2_emitDigits_0 1 rfl ?_
  refine g_istore_n C dX2_emitDigits_1 (by omega) (lv' := [(3, .int x), (0, .ref h), (1, .int x), (2, .int y)]) rfl ?_
  refine g_aload_n C dX2_emitDigits_2 1 rfl ?_
  refine gf_X2_13 C 0 rfl rfl dX2_emitDigits_3 ?_
  refine g_istore C dX2_emitDigits_6 (by omega) (lv' := [(4, .int os), (3, .int x), (0, .ref h), (1, .int x), (2, .int y)]) rfl ?_
  refine g_iconst C dX2_emitDigits_8 (by decide) (fun x8 e8 => ?_)
  refine g_istore C dX2_emitDigits_9 (by omega) (lv' := [(5, .int x8), (4, .int os), (3, .int x), (0, .ref h), (1, .int x), (2, .int y)]) rfl ?_
  have loop11 : ∀ (nn : Nat) (n5 : Int32) (sk : Int32) (fk : Nat → Int32) (i : Nat) (hm : k - i < nn) (hi : i ≤ k) (hp : n5.toInt = (i : Int)) (hs : sk.toInt = ((o.length + i : Nat) : Int)) (hb : Bs fk 0 (o ++ List.replicate i 48)), G E g [(h, .inr (4, [.ref ob, .int sk])), (ob, aB E (cap) (fk))] 0 0 11 [(0, .ref h), (1, .int x), (2, .int y), (3, .int x), (4, .int os), (5, .int n5)] [] := by
    intro nn
    induction nn with
    | zero => intro n5 sk fk i hm hi hp hs hb; omega
    | succ nn ih11 =>
      intro n5 sk fk i hm hi hp hs hb
      refine g_iload C dX2_emitDigits_11 5 rfl ?_
      refine g_iload_n C dX2_emitDigits_13 2 rfl ?_
      refine g_icmp_ge C 29 dX2_emitDigits_14 (by decide) (fun c14 => ?_) (fun c14 => ?_)
      · refine g_aload_n C dX2_emitDigits_29 0 rfl ?_
        refine gf_X2_13 C 0 rfl rfl dX2_emitDigits_30 ?_
        refine g_iconst C dX2_emitDigits_33 (by decide) (fun x33 e33 => ?_)
        refine g_isub C dX2_emitDigits_34 (by omega) (fun x34 e34 => ?_)
        refine g_istore C dX2_emitDigits_35 (by omega) (lv' := [(5, .int x34), (0, .ref h), (1, .int x), (2, .int y), (3, .int x), (4, .int os)]) rfl ?_
        have loop37 : ∀ (nn : Nat) (m5 : Int32) (rs : Int32) (fm : Nat → Int32) (j : Nat) (hm : j < nn) (hj : j ≤ k) (hp5 : m5.toInt = (o.length : Int) + (j : Int) - 1) (hr : rs.toInt = ((num / 10 ^ (k - j) : Nat) : Int)) (hbm : Bs fm 0 (o ++ List.replicate j 48 ++ dg num (k - j))), G E g [(h, .inr (4, [.ref ob, .int sk])), (ob, aB E (cap) (fm))] 0 0 37 [(0, .ref h), (1, .int x), (2, .int y), (3, .int rs), (4, .int os), (5, .int m5)] [] := by
          intro nn
          induction nn with
          | zero => intro m5 rs fm j hm hj hp5 hr hbm; omega
          | succ nn ih37 =>
            intro m5 rs fm j hm hj hp5 hr hbm
            have hr0 : 0 ≤ rs.toInt := by rw [hr]; exact Int.natCast_nonneg _
            refine g_iload C dX2_emitDigits_37 5 rfl ?_
            refine g_iload C dX2_emitDigits_39 4 rfl ?_
            refine g_icmp_lt C 70 dX2_emitDigits_41 (by decide) (fun c41 => ?_) (fun c41 => ?_)
            · exact g_vret C F dX2_emitDigits_70 (by omega) (by omega) (by exact ⟨rfl, _, _, by omega, dg_end hbm (by omega), rfl⟩)
            · refine g_aload_n C dX2_emitDigits_44 0 rfl ?_
              refine gf_X2_9 C 0 rfl rfl dX2_emitDigits_45 ?_
              refine g_iload C dX2_emitDigits_48 5 rfl ?_
              refine g_bipush C dX2_emitDigits_50 (by decide) (fun x50 e50 => ?_)
              refine g_iload_n C dX2_emitDigits_52 3 rfl ?_
              refine g_bipush C dX2_emitDigits_53 (by decide) (fun x53 e53 => ?_)
              refine g_irem C dX2_emitDigits_55 (10) (e53) (by omega) (fun x55 e55 => ?_)
              refine g_iadd C dX2_emitDigits_56 (by omega) (fun x56 e56 => ?_)
              refine g_i2b C dX2_emitDigits_57 (fun x57 e57 => ?_)
              refine g_bastore C 1 rfl dX2_emitDigits_58 (o.length + j - 1) (by omega) (by omega) ?_
              change G E g [(h, .inr (4, [.ref ob, .int sk])), (ob, aB E (cap) (upd (fm) (o.length + j - 1) (sB (u8 x57))))] _ _ _ _ _
              refine g_iload_n C dX2_emitDigits_59 3 rfl ?_
              refine g_bipush C dX2_emitDigits_60 (by decide) (fun x60 e60 => ?_)
              refine g_idiv C dX2_emitDigits_62 (10) (e60) (by omega) (fun x62 e62 => ?_)
              refine g_istore_n C dX2_emitDigits_63 (by omega) (lv' := [(3, .int x62), (0, .ref h), (1, .int x), (2, .int y), (4, .int os), (5, .int m5)]) rfl ?_
              refine g_iinc C dX2_emitDigits_64 5 rfl (by omega) (by decide) (by omega) (fun x64 e64 => ?_)
              refine g_lvE (lv' := [(5, .int x64), (3, .int x62), (0, .ref h), (1, .int x), (2, .int y), (4, .int os)]) rfl ?_
              refine g_goto C 37 dX2_emitDigits_67 (by decide) ?_
              refine g_lv [2, 3, 4, 1, 5, 0] (lv' := [(0, .ref h), (1, .int x), (2, .int y), (3, .int x62), (4, .int os), (5, .int x64)]) rfl ?_
              exact ih37 (x64) (x62) (upd (fm) (o.length + j - 1) (sB (u8 x57))) (j - 1) (by omega) (by omega) (by omega) (by obtain ⟨j, rfl⟩ : ∃ z, j = z + 1 := ⟨j - 1, by omega⟩; rw [e62, hr, show k - (j + 1 - 1) = k - (j + 1) + 1 by omega, Nat.pow_succ, ← Nat.div_div_eq_div_mul]; rfl) (by obtain ⟨j, rfl⟩ : ∃ z, j = z + 1 := ⟨j - 1, by omega⟩; exact dg_step hbm (by omega) e57 e56 e50 e55 hr)
        refine g_lv [1, 2, 3, 4, 5, 0] (lv' := [(0, .ref h), (1, .int x), (2, .int y), (3, .int x), (4, .int os), (5, .int x34)]) rfl ?_
        exact loop37 _ (x34) (x) (fk) (k) (Nat.lt_succ_self _) (by omega) (by omega) (by rw [show k - k = 0 by omega]; simpa using hx) (by rw [show i = k by omega] at hb; rw [show k - k = 0 by omega]; simpa [dg] using hb)
      · refine g_aload_n C dX2_emitDigits_17 0 rfl ?_
        refine g_bipush C dX2_emitDigits_18 (by decide) (fun x18 e18 => ?_)
        refine g_callV C r mv_X2_23 dX2_emitDigits_20 (c_X2_emit g.l E h ob cap fk sk (o ++ List.replicate i 48) x18 (by simp; omega) hb (by omega) (by simp; omega)) (wr := []) (As := [.int x18]) (rest := []) (Spl.at [] [0, 1] rfl rfl rfl) 0 rfl rfl rfl rfl (Nat.le_of_ble_eq_true rfl) (by decide) (by omega) (by omega) (fun v w h => ?_)
        obtain ⟨rfl, f20, s20, es20, eb20, rfl⟩ := h
        change G E g [(h, .inr (4, [.ref ob, .int s20])), (ob, aB E (cap) (f20))] _ _ _ _ []
        refine g_iinc C dX2_emitDigits_23 5 rfl (by omega) (by decide) (by omega) (fun x23 e23 => ?_)
        refine g_lvE (lv' := [(5, .int x23), (0, .ref h), (1, .int x), (2, .int y), (3, .int x), (4, .int os)]) rfl ?_
        refine g_goto C 11 dX2_emitDigits_26 (by decide) ?_
        refine g_lv [1, 2, 3, 4, 5, 0] (lv' := [(0, .ref h), (1, .int x), (2, .int y), (3, .int x), (4, .int os), (5, .int x23)]) rfl ?_
        exact ih11 (x23) (s20) (f20) (i + 1) (by omega) (by omega) (by omega) (by simp at es20; omega) (by rw [List.replicate_succ', ← List.append_assoc]; rw [u8_of (n := 48) e18 (by omega)] at eb20; exact eb20)
  refine g_lv [3, 4, 5, 2, 1, 0] (lv' := [(0, .ref h), (1, .int x), (2, .int y), (3, .int x), (4, .int os), (5, .int x8)]) rfl ?_
  exact loop11 _ (x8) (os) (of) (0) (Nat.lt_succ_self _) (by omega) (by omega) (by omega) (by simpa using hB)
set_option maxHeartbeats 1000000 in
set_option maxRecDepth 10000 in
theorem c_X2_has (l : Launch) (E : GE) (h ob : Nat) (os x : Int32)  : Ctr l E yX2_has cX2_has 2 (some .boolean) 0 (0) (0) [.ref h, .int x] [(h, .inr (4, [.ref ob, .int os]))] (oI (fun r => (r.toInt = 1 ∧ 0 ≤ x.toInt ∧ x.toInt < os.toInt) ∨ (r.toInt = 0 ∧ ¬ (0 ≤ x.toInt ∧ x.toInt < os.toInt))) [(h, .inr (4, [.ref ob, .int os]))]) := by
  refine Ctr.intro (by decide) (Nat.le_of_ble_eq_true rfl) (fun g hgl hN C r F hi => ?_)
  subst hgl
  change G E g [(h, .inr (4, [.ref ob, .int os]))] 0 0 0 [(0, .ref h), (1, .int x)] []
  refine g_iload_n C dX2_has_0 1 rfl ?_
  refine g_if_lt C 16 dX2_has_1 (by decide) (fun c1 => ?_) (fun c1 => ?_)
  · refine g_iconst C dX2_has_16 (by decide) (fun x16 e16 => ?_)
    exact g_iret C F dX2_has_17 rfl (nz_b x16 (by omega)) (by omega) (by omega) (by exact ⟨_, rfl, by omega, rfl⟩)
  · refine g_iload_n C dX2_has_4 1 rfl ?_
    refine g_aload_n C dX2_has_5 0 rfl ?_
    refine gf_X2_13 C 0 rfl rfl dX2_has_6 ?_
    refine g_icmp_ge C 16 dX2_has_9 (by decide) (fun c9 => ?_) (fun c9 => ?_)
    · refine g_iconst C dX2_has_16 (by decide) (fun x16 e16 => ?_)
      exact g_iret C F dX2_has_17 rfl (nz_b x16 (by omega)) (by omega) (by omega) (by exact ⟨_, rfl, by omega, rfl⟩)
    · refine g_iconst C dX2_has_12 (by decide) (fun x12 e12 => ?_)
      refine g_goto C 17 dX2_has_13 (by decide) ?_
      exact g_iret C F dX2_has_17 rfl (nz_b x12 (by omega)) (by omega) (by omega) (by exact ⟨_, rfl, by omega, rfl⟩)
end
section
set_option maxHeartbeats 1000000 in
set_option maxRecDepth 10000 in
theorem c_X1_init (l : Launch) (E : GE) (h : Nat) (z1 z2 : Int32)  : Ctr l E yX1_init cX1_init 1 none 1 (1) (1500) [.ref h] [(h, .inr (3, [.null, .int z1, .int z2]))] (fun v w => v = none ∧ ∃ (q : Nat) (s p : Int32), s.toInt = 0 ∧ p.toInt = 0 ∧ w = [(h, .inr (3, [.ref q, .int s, .int p])), (q, aB E 1500 (fun _ => 0))]) := by
  refine Ctr.intro (by decide) (Nat.le_of_ble_eq_true rfl) (fun g hgl hN C r F hi => ?_)
  subst hgl
  change G E g [(h, .inr (3, [.null, .int z1, .int z2]))] 0 0 0 [(0, .ref h)] []
  refine g_aload_n C dX1_init_0 0 rfl ?_
  refine g_objInit C r (by decide) kw1_28 dX1_init_1 (Nat.le_of_ble_eq_true rfl) ?_
  refine g_aload_n C dX1_init_4 0 rfl ?_
  refine g_sipush C dX1_init_5 (by decide) (fun x5 e5 => ?_)
  refine g_newB C r dX1_init_8 (1500) (by omega) (by omega) (by omega) (by omega) (fun q8 => ?_)
  change G E g [(h, .inr (3, [.null, .int z1, .int z2])), (q8, aB E (1500) (fun _ => 0))] _ _ _ _ _
  refine gp_X1_9 C (hi rfl) 0 rfl (Nat.le_of_ble_eq_true rfl) rfl rfl dX1_init_10 ?_
  change G E g [(h, .inr (3, [.ref q8, .int z1, .int z2])), (q8, aB E (1500) (fun _ => 0))] _ _ _ _ _
  refine g_aload_n C dX1_init_13 0 rfl ?_
  refine g_iconst C dX1_init_14 (by decide) (fun x14 e14 => ?_)
  refine gp_X1_15 C 0 rfl (Nat.le_of_ble_eq_true rfl) rfl rfl dX1_init_15 ?_
  change G E g [(h, .inr (3, [.ref q8, .int x14, .int z2])), (q8, aB E (1500) (fun _ => 0))] _ _ _ _ _
  refine g_aload_n C dX1_init_18 0 rfl ?_
  refine g_iconst C dX1_init_19 (by decide) (fun x19 e19 => ?_)
  refine gp_X1_19 C 0 rfl (Nat.le_of_ble_eq_true rfl) rfl rfl dX1_init_20 ?_
  change G E g [(h, .inr (3, [.ref q8, .int x14, .int x19])), (q8, aB E (1500) (fun _ => 0))] _ _ _ _ _
  exact g_vret C F dX1_init_23 (by omega) (by omega) (by exact ⟨rfl, _, _, _, by omega, by omega, rfl⟩)
set_option maxHeartbeats 1000000 in
set_option maxRecDepth 10000 in
theorem c_X1_skip (l : Launch) (E : GE) (h b : Nat) (f : Nat → Int32) (sz pl : Int32) (S P : Nat) (x : Int32) (k : Nat) (hS : sz.toInt = (S : Int)) (hP : pl.toInt = (P : Int)) (hPS : P ≤ S) (hSm : S ≤ 1500) (hx : x.toInt = (k : Int)) (hk : P + k ≤ 2000) : Ctr l E yX1_skip cX1_skip 2 none 0 (0) (0) [.ref h, .int x] [(h, .inr (3, [.ref b, .int sz, .int pl])), (b, aB E (1500) (f))] (fun v w => v = none ∧ ∃ p : Int32, p.toInt = ((P + k : Nat) : Int) ∧ w = [(h, .inr (3, [.ref b, .int sz, .int p])), (b, aB E 1500 f)]) := by
  refine Ctr.intro (by decide) (Nat.le_of_ble_eq_true rfl) (fun g hgl hN C r F hi => ?_)
  subst hgl
  change G E g [(h, .inr (3, [.ref b, .int sz, .int pl])), (b, aB E (1500) (f))] 0 0 0 [(0, .ref h), (1, .int x)] []
  refine g_aload_n C dX1_skip_0 0 rfl ?_
  refine g_dup C dX1_skip_1 rfl ?_
  refine gf_X1_19 C 0 rfl rfl dX1_skip_2 ?_
  refine g_iload_n C dX1_skip_5 1 rfl ?_
  refine g_iadd C dX1_skip_6 (by omega) (fun x6 e6 => ?_)
  refine gp_X1_19 C 0 rfl (Nat.le_of_ble_eq_true rfl) rfl rfl dX1_skip_7 ?_
  change G E g [(h, .inr (3, [.ref b, .int sz, .int x6])), (b, aB E (1500) (f))] _ _ _ _ _
  exact g_vret C F dX1_skip_10 (by omega) (by omega) (by exact ⟨rfl, _, by omega, rfl⟩)
set_option maxHeartbeats 1000000 in
set_option maxRecDepth 10000 in
theorem c_X1_append (l : Launch) (E : GE) (h b : Nat) (f : Nat → Int32) (sz pl : Int32) (S P : Nat) (x : Int32) (hS : sz.toInt = (S : Int)) (hP : pl.toInt = (P : Int)) (hPS : P ≤ S) (hSm : S ≤ 1500) : Ctr l E yX1_append cX1_append 2 none 0 (0) (0) [.ref h, .int x] [(h, .inr (3, [.ref b, .int sz, .int pl])), (b, aB E (1500) (f))] (fun v w => v = none ∧ ∃ (s : Int32) (f2 : Nat → Int32), ((S < 1500 ∧ s.toInt = ((S + 1 : Nat) : Int) ∧ f2 = upd f S (sB (u8 x))) ∨ (¬ S < 1500 ∧ s = sz ∧ f2 = f)) ∧ w = [(h, .inr (3, [.ref b, .int s, .int pl])), (b, aB E 1500 f2)]) := by
  refine Ctr.intro (by decide) (Nat.le_of_ble_eq_true rfl) (fun g hgl hN C r F hi => ?_)
  subst hgl
  change G E g [(h, .inr (3, [.ref b, .int sz, .int pl])), (b, aB E (1500) (f))] 0 0 0 [(0, .ref h), (1, .int x)] []
  refine g_aload_n C dX1_append_0 0 rfl ?_
  refine gf_X1_15 C 0 rfl rfl dX1_append_1 ?_
  refine g_sipush C dX1_append_4 (by decide) (fun x4 e4 => ?_)
  refine g_icmp_ge C 30 dX1_append_7 (by decide) (fun c7 => ?_) (fun c7 => ?_)
  · exact g_vret C F dX1_append_30 (by omega) (by omega) (by first | exact ⟨rfl, _, _, Or.inl ⟨by omega, by omega, rfl⟩, rfl⟩ | exact ⟨rfl, _, _, Or.inr ⟨by omega, rfl, rfl⟩, rfl⟩)
  · refine g_aload_n C dX1_append_10 0 rfl ?_
    refine gf_X1_9 C 0 rfl rfl dX1_append_11 ?_
    refine g_aload_n C dX1_append_14 0 rfl ?_
    refine gf_X1_15 C 0 rfl rfl dX1_append_15 ?_
    refine g_iload_n C dX1_append_18 1 rfl ?_
    refine g_bastore C 1 rfl dX1_append_19 (S) (by omega) (by omega) ?_
    change G E g [(h, .inr (3, [.ref b, .int sz, .int pl])), (b, aB E (1500) (upd (f) (S) (sB (u8 x))))] _ _ _ _ _
    refine g_aload_n C dX1_append_20 0 rfl ?_
    refine g_dup C dX1_append_21 rfl ?_
    refine gf_X1_15 C 0 rfl rfl dX1_append_22 ?_
    refine g_iconst C dX1_append_25 (by decide) (fun x25 e25 => ?_)
    refine g_iadd C dX1_append_26 (by omega) (fun x26 e26 => ?_)
    refine gp_X1_15 C 0 rfl (Nat.le_of_ble_eq_true rfl) rfl rfl dX1_append_27 ?_
    change G E g [(h, .inr (3, [.ref b, .int x26, .int pl])), (b, aB E (1500) (upd (f) (S) (sB (u8 x))))] _ _ _ _ _
    exact g_vret C F dX1_append_30 (by omega) (by omega) (by first | exact ⟨rfl, _, _, Or.inl ⟨by omega, by omega, rfl⟩, rfl⟩ | exact ⟨rfl, _, _, Or.inr ⟨by omega, rfl, rfl⟩, rfl⟩)
set_option maxHeartbeats 1000000 in
set_option maxRecDepth 10000 in
theorem c_X2_at (l : Launch) (E : GE) (h ob cap : Nat) (of : Nat → Int32) (os x : Int32) (o : List Nat) (hos : os.toInt = (o.length : Int)) (hB : Bs of 0 o) (hcp : o.length ≤ cap) (hx0 : 0 ≤ x.toInt) (hx1 : x.toInt < (o.length : Int)) : Ctr l E yX2_at cX2_at 2 (some .byte) 1 (0) (0) [.ref h, .int x] [(h, .inr (4, [.ref ob, .int os])), (ob, aB E (cap) (of))] (oI (fun r => r = sB (o.getD x.toInt.toNat 0)) [(h, .inr (4, [.ref ob, .int os])), (ob, aB E (cap) (of))]) := by
  refine Ctr.intro (by decide) (Nat.le_of_ble_eq_true rfl) (fun g hgl hN C r F hi => ?_)
  subst hgl
  change G E g [(h, .inr (4, [.ref ob, .int os])), (ob, aB E (cap) (of))] 0 0 0 [(0, .ref h), (1, .int x)] []
  refine g_aload_n C dX2_at_0 0 rfl ?_
  refine g_iload_n C dX2_at_1 1 rfl ?_
  refine g_callV C r mv_X2_27 dX2_at_2 (c_X2_has g.l E h ob os x) (wr := [(ob, aB E (cap) (of))]) (As := [.int x]) (rest := []) (Spl.at [1] [0] rfl rfl rfl) 0 rfl rfl rfl rfl (Nat.le_of_ble_eq_true rfl) (by decide) (by omega) (by omega) (fun v w h => ?_)
  obtain ⟨x2, rfl, e2, rfl⟩ := h
  change G E g [(ob, aB E (cap) (of)), (h, .inr (4, [.ref ob, .int os]))] _ _ _ _ [.int x2]
  refine g_if_eq C 17 dX2_at_5 (by decide) (fun c5 => ?_) (fun c5 => ?_)
  · exfalso; omega
  · refine g_aload_n C dX2_at_8 0 rfl ?_
    refine gf_X2_9 C 1 rfl rfl dX2_at_9 ?_
    refine g_iload_n C dX2_at_12 1 rfl ?_
    refine g_baload C 0 rfl dX2_at_13 (0 + x.toInt.toNat) (by omega) (by omega) (fun x13 e13 => ?_)
    refine g_goto C 18 dX2_at_14 (by decide) ?_
    refine g_perm [1, 0] rfl (ws' := [(h, .inr (4, [.ref ob, .int os])), (ob, aB E (cap) (of))]) rfl ?_
    exact g_iret C F dX2_at_18 rfl (nb_sB e13 (hB _ (by omega))) (by omega) (by omega) (by refine ⟨_, rfl, ?_, rfl⟩; show _ = _; rw [e13]; exact hB _ (by omega))
set_option maxHeartbeats 1000000 in
set_option maxRecDepth 10000 in
theorem c_X0_init (l : Launch) (E : GE) (h : Nat) (t1 t2 t3 t4 t5 : Int32)  : Ctr l E yX0_init cX0_init 1 none 1 (1) (16) [.ref h] [(h, .inr (2, [.int t1, .int t2, .int t3, .null, .int t4, .int t5]))] (fun v w => v = none ∧ ∃ q : Nat, w = [(h, .inr (2, [.int t1, .int t2, .int t3, .ref q, .int t4, .int t5])), (q, aB E 16 (fun _ => 0))]) := by
  refine Ctr.intro (by decide) (Nat.le_of_ble_eq_true rfl) (fun g hgl hN C r F hi => ?_)
  subst hgl
  change G E g [(h, .inr (2, [.int t1, .int t2, .int t3, .null, .int t4, .int t5]))] 0 0 0 [(0, .ref h)] []
  refine g_aload_n C dX0_init_0 0 rfl ?_
  refine g_objInit C r (by decide) kw1_59 dX0_init_1 (Nat.le_of_ble_eq_true rfl) ?_
  refine g_aload_n C dX0_init_4 0 rfl ?_
  refine g_bipush C dX0_init_5 (by decide) (fun x5 e5 => ?_)
  refine g_newB C r dX0_init_7 (16) (by omega) (by omega) (by omega) (by omega) (fun q7 => ?_)
  change G E g [(h, .inr (2, [.int t1, .int t2, .int t3, .null, .int t4, .int t5])), (q7, aB E (16) (fun _ => 0))] _ _ _ _ _
  refine gp_X0_11 C 0 rfl (Nat.le_of_ble_eq_true rfl) rfl rfl dX0_init_9 ?_
  change G E g [(h, .inr (2, [.int t1, .int t2, .int t3, .ref q7, .int t4, .int t5])), (q7, aB E (16) (fun _ => 0))] _ _ _ _ _
  exact g_vret C F dX0_init_12 (by omega) (by omega) (by exact ⟨rfl, _, rfl⟩)
set_option maxHeartbeats 1000000 in
set_option maxRecDepth 10000 in
theorem c_X0_begin (l : Launch) (E : GE) (h fb : Nat) (tag fi se sz su : Int32) (x y z : Int32)  : Ctr l E yX0_begin cX0_begin 4 none 0 (0) (0) [.ref h, .int x, .int y, .int z] [(h, .inr (2, [.int tag, .int fi, .int se, .ref fb, .int sz, .int su]))] (fun v w => v = none ∧ ∃ s u : Int32, s.toInt = 0 ∧ u.toInt = 0 ∧ w = [(h, .inr (2, [.int x, .int y, .int z, .ref fb, .int s, .int u]))]) := by
  refine Ctr.intro (by decide) (Nat.le_of_ble_eq_true rfl) (fun g hgl hN C r F hi => ?_)
  subst hgl
  change G E g [(h, .inr (2, [.int tag, .int fi, .int se, .ref fb, .int sz, .int su]))] 0 0 0 [(0, .ref h), (1, .int x), (2, .int y), (3, .int z)] []
  refine g_aload_n C dX0_begin_0 0 rfl ?_
  refine g_iload_n C dX0_begin_1 1 rfl ?_
  refine gp_X0_15 C 0 rfl (Nat.le_of_ble_eq_true rfl) rfl rfl dX0_begin_2 ?_
  change G E g [(h, .inr (2, [.int x, .int fi, .int se, .ref fb, .int sz, .int su]))] _ _ _ _ _
  refine g_aload_n C dX0_begin_5 0 rfl ?_
  refine g_iload_n C dX0_begin_6 2 rfl ?_
  refine gp_X0_19 C 0 rfl (Nat.le_of_ble_eq_true rfl) rfl rfl dX0_begin_7 ?_
  change G E g [(h, .inr (2, [.int x, .int y, .int se, .ref fb, .int sz, .int su]))] _ _ _ _ _
  refine g_aload_n C dX0_begin_10 0 rfl ?_
  refine g_iload_n C dX0_begin_11 3 rfl ?_
  refine gp_X0_22 C 0 rfl (Nat.le_of_ble_eq_true rfl) rfl rfl dX0_begin_12 ?_
  change G E g [(h, .inr (2, [.int x, .int y, .int z, .ref fb, .int sz, .int su]))] _ _ _ _ _
  refine g_aload_n C dX0_begin_15 0 rfl ?_
  refine g_iconst C dX0_begin_16 (by decide) (fun x16 e16 => ?_)
  refine gp_X0_25 C 0 rfl (Nat.le_of_ble_eq_true rfl) rfl rfl dX0_begin_17 ?_
  change G E g [(h, .inr (2, [.int x, .int y, .int z, .ref fb, .int x16, .int su]))] _ _ _ _ _
  refine g_aload_n C dX0_begin_20 0 rfl ?_
  refine g_iconst C dX0_begin_21 (by decide) (fun x21 e21 => ?_)
  refine gp_X0_28 C 0 rfl (Nat.le_of_ble_eq_true rfl) rfl rfl dX0_begin_22 ?_
  change G E g [(h, .inr (2, [.int x, .int y, .int z, .ref fb, .int x16, .int x21]))] _ _ _ _ _
  exact g_vret C F dX0_begin_25 (by omega) (by omega) (by exact ⟨rfl, _, _, by omega, by omega, rfl⟩)
set_option maxHeartbeats 1000000 in
set_option maxRecDepth 10000 in
theorem c_X0_at (l : Launch) (E : GE) (h fb cap : Nat) (ff : Nat → Int32) (tag fi se sz su : Int32) (bd : List Nat) (x : Int32) (hsz : sz.toInt = (bd.length : Int)) (hB : Bs ff 0 bd) (h8 : B8 bd) (hle : bd.length ≤ cap) (hcap : cap ≤ 100000) : Ctr l E yX0_at cX0_at 2 (some .int) 0 (0) (0) [.ref h, .int x] [(h, .inr (2, [.int tag, .int fi, .int se, .ref fb, .int sz, .int su])), (fb, aB E (cap) (ff))] (oI (fun r => r.toInt = gI bd x.toInt) [(h, .inr (2, [.int tag, .int fi, .int se, .ref fb, .int sz, .int su])), (fb, aB E (cap) (ff))]) := by
  refine Ctr.intro (by decide) (Nat.le_of_ble_eq_true rfl) (fun g hgl hN C r F hi => ?_)
  subst hgl
  change G E g [(h, .inr (2, [.int tag, .int fi, .int se, .ref fb, .int sz, .int su])), (fb, aB E (cap) (ff))] 0 0 0 [(0, .ref h), (1, .int x)] []
  refine g_iload_n C dX0_at_0 1 rfl ?_
  refine g_if_lt C 12 dX0_at_1 (by decide) (fun c1 => ?_) (fun c1 => ?_)
  · refine g_iconst C dX0_at_12 (by decide) (fun x12 e12 => ?_)
    refine g_goto C 26 dX0_at_13 (by decide) ?_
    exact g_iret C F dX0_at_26 rfl rfl (by omega) (by omega) (by first | (refine ⟨_, rfl, ?_, rfl⟩; show _ = _; rw [gI_out (by omega)]; omega) | (refine ⟨_, rfl, ?_, rfl⟩; show _ = _; unfold gI; rw [if_pos (by omega), e25, e21, Bs_at hB h8 (by omega)]))
  · refine g_iload_n C dX0_at_4 1 rfl ?_
    refine g_aload_n C dX0_at_5 0 rfl ?_
    refine gf_X0_25 C 0 rfl rfl dX0_at_6 ?_
    refine g_icmp_lt C 16 dX0_at_9 (by decide) (fun c9 => ?_) (fun c9 => ?_)
    · refine g_aload_n C dX0_at_16 0 rfl ?_
      refine gf_X0_11 C 0 rfl rfl dX0_at_17 ?_
      refine g_iload_n C dX0_at_20 1 rfl ?_
      refine g_baload C 1 rfl dX0_at_21 (0 + x.toInt.toNat) (by omega) (by omega) (fun x21 e21 => ?_)
      refine g_sipush C dX0_at_22 (by decide) (fun x22 e22 => ?_)
      refine g_iand255 C dX0_at_25 e22 (fun x25 e25 l25 => ?_)
      exact g_iret C F dX0_at_26 rfl rfl (by omega) (by omega) (by first | (refine ⟨_, rfl, ?_, rfl⟩; show _ = _; rw [gI_out (by omega)]; omega) | (refine ⟨_, rfl, ?_, rfl⟩; show _ = _; unfold gI; rw [if_pos (by omega), e25, e21, Bs_at hB h8 (by omega)]))
    · refine g_iconst C dX0_at_12 (by decide) (fun x12 e12 => ?_)
      refine g_goto C 26 dX0_at_13 (by decide) ?_
      exact g_iret C F dX0_at_26 rfl rfl (by omega) (by omega) (by first | (refine ⟨_, rfl, ?_, rfl⟩; show _ = _; rw [gI_out (by omega)]; omega) | (refine ⟨_, rfl, ?_, rfl⟩; show _ = _; unfold gI; rw [if_pos (by omega), e25, e21, Bs_at hB h8 (by omega)]))
theorem c_X0_at' (l : Launch) (E : GE) (h fb cap : Nat) (ff : Nat → Int32) (tag fi se sz su : Int32) (bd : List Nat) (x : Int32) (k : Nat) (hsz : sz.toInt = (bd.length : Int)) (hB : Bs ff 0 bd) (h8 : B8 bd) (hle : bd.length ≤ cap) (hcap : cap ≤ 100000) (hx : x.toInt = (k : Int)) (hk : k < bd.length) : Ctr l E yX0_at cX0_at 2 (some .int) 0 (0) (0) [.ref h, .int x] [(h, .inr (2, [.int tag, .int fi, .int se, .ref fb, .int sz, .int su])), (fb, aB E (cap) (ff))] (oI (fun r => r.toInt = (bd.getD k 0 : Int)) [(h, .inr (2, [.int tag, .int fi, .int se, .ref fb, .int sz, .int su])), (fb, aB E (cap) (ff))]) :=
  fun s => Met.post (c_X0_at l E h fb cap ff tag fi se sz su bd x hsz hB h8 hle hcap s) (by
    rintro v w ⟨r, rfl, hr, rfl⟩
    refine ⟨r, rfl, ?_, rfl⟩
    show r.toInt = _
    rw [hr, hx, gI_in hk])
set_option maxHeartbeats 1000000 in
set_option maxRecDepth 10000 in
theorem c_X0_indicatorCount (l : Launch) (E : GE) (h fb : Nat) (tag fi se sz su : Int32)  : Ctr l E yX0_indicatorCount cX0_indicatorCount 1 (some .int) 1 (0) (0) [.ref h] [(h, .inr (2, [.int tag, .int fi, .int se, .ref fb, .int sz, .int su]))] (oI (fun r => (tag.toInt ≤ 9 ∧ r.toInt = 0) ∨ (9 < tag.toInt ∧ r.toInt = 2)) [(h, .inr (2, [.int tag, .int fi, .int se, .ref fb, .int sz, .int su]))]) := by
  refine Ctr.intro (by decide) (Nat.le_of_ble_eq_true rfl) (fun g hgl hN C r F hi => ?_)
  subst hgl
  change G E g [(h, .inr (2, [.int tag, .int fi, .int se, .ref fb, .int sz, .int su]))] 0 0 0 [(0, .ref h)] []
  refine g_aload_n C dX0_indicatorCount_0 0 rfl ?_
  refine gf_X0_15 C 0 rfl rfl dX0_indicatorCount_1 ?_
  refine g_callN C r mn_X0_37 dX0_indicatorCount_4 (c_X3_isControl g.l E tag) (wr := [(h, .inr (2, [.int tag, .int fi, .int se, .ref fb, .int sz, .int su]))]) (As := [.int tag]) (rest := []) (Spl.at [0] [] rfl rfl rfl) rfl (Nat.le_of_ble_eq_true rfl) (by decide) (by omega) (by omega) (fun v w h => ?_)
  obtain ⟨x4, rfl, e4, rfl⟩ := h
  change G E g [(h, .inr (2, [.int tag, .int fi, .int se, .ref fb, .int sz, .int su]))] _ _ _ _ [.int x4]
  refine g_if_eq C 14 dX0_indicatorCount_7 (by decide) (fun c7 => ?_) (fun c7 => ?_)
  · refine g_iconst C dX0_indicatorCount_14 (by decide) (fun x14 e14 => ?_)
    exact g_iret C F dX0_indicatorCount_15 rfl rfl (by omega) (by omega) (by exact ⟨_, rfl, by omega, rfl⟩)
  · refine g_iconst C dX0_indicatorCount_10 (by decide) (fun x10 e10 => ?_)
    refine g_goto C 15 dX0_indicatorCount_11 (by decide) ?_
    exact g_iret C F dX0_indicatorCount_15 rfl rfl (by omega) (by omega) (by exact ⟨_, rfl, by omega, rfl⟩)
set_option maxHeartbeats 1000000 in
set_option maxRecDepth 10000 in
theorem c_X0_heldBytes (l : Launch) (E : GE) (h fb : Nat) (tag fi se sz su : Int32) (h1 : 0 ≤ sz.toInt ∧ sz.toInt ≤ 100000) (h2 : 0 ≤ su.toInt ∧ su.toInt ≤ 100000) : Ctr l E yX0_heldBytes cX0_heldBytes 1 (some .int) 2 (0) (0) [.ref h] [(h, .inr (2, [.int tag, .int fi, .int se, .ref fb, .int sz, .int su]))] (oI (fun r => (tag.toInt ≤ 9 ∧ r.toInt = sz.toInt - su.toInt) ∨ (9 < tag.toInt ∧ r.toInt = 2 + sz.toInt - su.toInt)) [(h, .inr (2, [.int tag, .int fi, .int se, .ref fb, .int sz, .int su]))]) := by
  refine Ctr.intro (by decide) (Nat.le_of_ble_eq_true rfl) (fun g hgl hN C r F hi => ?_)
  subst hgl
  change G E g [(h, .inr (2, [.int tag, .int fi, .int se, .ref fb, .int sz, .int su]))] 0 0 0 [(0, .ref h)] []
  refine g_aload_n C dX0_heldBytes_0 0 rfl ?_
  refine g_callV C r mv_X0_41 dX0_heldBytes_1 (c_X0_indicatorCount g.l E h fb tag fi se sz su) (wr := []) (As := []) (rest := []) (Spl.at [] [0] rfl rfl rfl) 0 rfl rfl rfl rfl (Nat.le_of_ble_eq_true rfl) (by decide) (by omega) (by omega) (fun v w h => ?_)
  obtain ⟨x1, rfl, e1, rfl⟩ := h
  change G E g [(h, .inr (2, [.int tag, .int fi, .int se, .ref fb, .int sz, .int su]))] _ _ _ _ [.int x1]
  refine g_aload_n C dX0_heldBytes_4 0 rfl ?_
  refine gf_X0_25 C 0 rfl rfl dX0_heldBytes_5 ?_
  refine g_iadd C dX0_heldBytes_8 (by omega) (fun x8 e8 => ?_)
  refine g_aload_n C dX0_heldBytes_9 0 rfl ?_
  refine gf_X0_28 C 0 rfl rfl dX0_heldBytes_10 ?_
  refine g_isub C dX0_heldBytes_13 (by omega) (fun x13 e13 => ?_)
  exact g_iret C F dX0_heldBytes_14 rfl rfl (by omega) (by omega) (by exact ⟨_, rfl, by omega, rfl⟩)
set_option maxHeartbeats 1000000 in
set_option maxRecDepth 10000 in
theorem c_X0_writtenSize (l : Launch) (E : GE) (h fb : Nat) (tag fi se sz su : Int32) (h1 : 0 ≤ sz.toInt ∧ sz.toInt ≤ 100000) : Ctr l E yX0_writtenSize cX0_writtenSize 1 (some .int) 2 (0) (0) [.ref h] [(h, .inr (2, [.int tag, .int fi, .int se, .ref fb, .int sz, .int su]))] (oI (fun r => (tag.toInt ≤ 9 ∧ r.toInt = sz.toInt + 1) ∨ (9 < tag.toInt ∧ r.toInt = sz.toInt + 3)) [(h, .inr (2, [.int tag, .int fi, .int se, .ref fb, .int sz, .int su]))]) := by
  refine Ctr.intro (by decide) (Nat.le_of_ble_eq_true rfl) (fun g hgl hN C r F hi => ?_)
  subst hgl
  change G E g [(h, .inr (2, [.int tag, .int fi, .int se, .ref fb, .int sz, .int su]))] 0 0 0 [(0, .ref h)] []
  refine g_aload_n C dX0_writtenSize_0 0 rfl ?_
  refine g_callV C r mv_X0_41 dX0_writtenSize_1 (c_X0_indicatorCount g.l E h fb tag fi se sz su) (wr := []) (As := []) (rest := []) (Spl.at [] [0] rfl rfl rfl) 0 rfl rfl rfl rfl (Nat.le_of_ble_eq_true rfl) (by decide) (by omega) (by omega) (fun v w h => ?_)
  obtain ⟨x1, rfl, e1, rfl⟩ := h
  change G E g [(h, .inr (2, [.int tag, .int fi, .int se, .ref fb, .int sz, .int su]))] _ _ _ _ [.int x1]
  refine g_aload_n C dX0_writtenSize_4 0 rfl ?_
  refine gf_X0_25 C 0 rfl rfl dX0_writtenSize_5 ?_
  refine g_iadd C dX0_writtenSize_8 (by omega) (fun x8 e8 => ?_)
  refine g_iconst C dX0_writtenSize_9 (by decide) (fun x9 e9 => ?_)
  refine g_iadd C dX0_writtenSize_10 (by omega) (fun x10 e10 => ?_)
  exact g_iret C F dX0_writtenSize_11 rfl rfl (by omega) (by omega) (by exact ⟨_, rfl, by omega, rfl⟩)
set_option maxHeartbeats 1000000 in
set_option maxRecDepth 10000 in
theorem c_X0_subfieldStart (l : Launch) (E : GE) (h fb cap : Nat) (ff : Nat → Int32) (tag fi se sz su : Int32) (bd : List Nat) (x y : Int32) (hsz : sz.toInt = (bd.length : Int)) (hB : Bs ff 0 bd) (h8 : B8 bd) (hle : bd.length ≤ cap) (hcap : cap ≤ 100000) : Ctr l E yX0_subfieldStart cX0_subfieldStart 5 (some .int) 1 (0) (0) [.ref h, .int x, .int y] [(h, .inr (2, [.int tag, .int fi, .int se, .ref fb, .int sz, .int su])), (fb, aB E (cap) (ff))] (oI (fun r => r.toInt = sIx bd x.toInt y.toInt (bd.length - 1) 0 0) [(h, .inr (2, [.int tag, .int fi, .int se, .ref fb, .int sz, .int su])), (fb, aB E (cap) (ff))]) := by
  refine Ctr.intro (by decide) (Nat.le_of_ble_eq_true rfl) (fun g hgl hN C r F hi => ?_)
  subst hgl
  change G E g [(h, .inr (2, [.int tag, .int fi, .int se, .ref fb, .int sz, .int su])), (fb, aB E (cap) (ff))] 0 0 0 [(0, .ref h), (1, .int x), (2, .int y)] []
  refine g_iconst C dX0_subfieldStart_0 (by decide) (fun x0 e0 => ?_)
  refine g_istore_n C dX0_subfieldStart_1 (by omega) (lv' := [(3, .int x0), (0, .ref h), (1, .int x), (2, .int y)]) rfl ?_
  refine g_iconst C dX0_subfieldStart_2 (by decide) (fun x2 e2 => ?_)
  refine g_istore C dX0_subfieldStart_3 (by omega) (lv' := [(4, .int x2), (3, .int x0), (0, .ref h), (1, .int x), (2, .int y)]) rfl ?_
  have loop5 : ∀ (nn : Nat) (n3 : Int32) (n4 : Int32) (k : Nat) (hm : bd.length - k < nn) (hk : k ≤ bd.length) (hp : n4.toInt = (k : Int)) (hb : 0 ≤ n3.toInt ∧ n3.toInt ≤ (k : Int)) (hn : sIx bd x.toInt y.toInt (bd.length - 1) 0 0 = sIx bd x.toInt y.toInt (bd.length - 1 - k) k n3.toInt), G E g [(h, .inr (2, [.int tag, .int fi, .int se, .ref fb, .int sz, .int su])), (fb, aB E (cap) (ff))] 0 0 5 [(0, .ref h), (1, .int x), (2, .int y), (3, .int n3), (4, .int n4)] [] := by
    intro nn
    induction nn with
    | zero => intro n3 n4 k hm hk hp hb hn; omega
    | succ nn ih5 =>
      intro n3 n4 k hm hk hp hb hn
      refine g_iload C dX0_subfieldStart_5 4 rfl ?_
      refine g_iconst C dX0_subfieldStart_7 (by decide) (fun x7 e7 => ?_)
      refine g_iadd C dX0_subfieldStart_8 (by omega) (fun x8 e8 => ?_)
      refine g_aload_n C dX0_subfieldStart_9 0 rfl ?_
      refine gf_X0_25 C 0 rfl rfl dX0_subfieldStart_10 ?_
      refine g_icmp_ge C 58 dX0_subfieldStart_13 (by decide) (fun c13 => ?_) (fun c13 => ?_)
      · refine g_iconst C dX0_subfieldStart_58 (by decide) (fun x58 e58 => ?_)
        exact g_iret C F dX0_subfieldStart_59 rfl rfl (by omega) (by omega) (by refine ⟨_, rfl, ?_, rfl⟩; show _ = _; rw [hn, sIx_zero (by omega)]; omega)
      · refine g_aload_n C dX0_subfieldStart_16 0 rfl ?_
        refine g_iload C dX0_subfieldStart_17 4 rfl ?_
        refine g_callV C r mv_X0_45 dX0_subfieldStart_19 (c_X0_at' g.l E h fb cap ff tag fi se sz su bd n4 (k) hsz hB h8 hle hcap (by omega) (by omega)) (wr := []) (As := [.int n4]) (rest := []) (Spl.at [] [0, 1] rfl rfl rfl) 0 rfl rfl rfl rfl (Nat.le_of_ble_eq_true rfl) (by decide) (by omega) (by omega) (fun v w h => ?_)
        obtain ⟨x19, rfl, e19, rfl⟩ := h
        change G E g [(h, .inr (2, [.int tag, .int fi, .int se, .ref fb, .int sz, .int su])), (fb, aB E (cap) (ff))] _ _ _ _ [.int x19]
        refine g_bipush C dX0_subfieldStart_22 (by decide) (fun x22 e22 => ?_)
        refine g_icmp_ne C 52 dX0_subfieldStart_24 (by decide) (fun c24 => ?_) (fun c24 => ?_)
        · refine g_iinc C dX0_subfieldStart_52 4 rfl (by omega) (by decide) (by omega) (fun x52 e52 => ?_)
          refine g_lvE (lv' := [(4, .int x52), (0, .ref h), (1, .int x), (2, .int y), (3, .int n3)]) rfl ?_
          refine g_goto C 5 dX0_subfieldStart_55 (by decide) ?_
          refine g_lv [1, 2, 3, 4, 0] (lv' := [(0, .ref h), (1, .int x), (2, .int y), (3, .int n3), (4, .int x52)]) rfl ?_
          exact ih5 (n3) (x52) (k + 1) (by omega) (by omega) (by omega) (by omega) (by first | (rw [hn, e49, sIx_go (by omega) (by omega) (by omega), show bd.length - 1 - k - 1 = bd.length - 1 - (k + 1) by omega]; done) | (rw [hn, sIx_no (by omega) (by omega), show bd.length - 1 - k - 1 = bd.length - 1 - (k + 1) by omega]; done))
        · refine g_aload_n C dX0_subfieldStart_27 0 rfl ?_
          refine g_iload C dX0_subfieldStart_28 4 rfl ?_
          refine g_iconst C dX0_subfieldStart_30 (by decide) (fun x30 e30 => ?_)
          refine g_iadd C dX0_subfieldStart_31 (by omega) (fun x31 e31 => ?_)
          refine g_callV C r mv_X0_45 dX0_subfieldStart_32 (c_X0_at' g.l E h fb cap ff tag fi se sz su bd x31 (k + 1) hsz hB h8 hle hcap (by omega) (by omega)) (wr := []) (As := [.int x31]) (rest := []) (Spl.at [] [0, 1] rfl rfl rfl) 0 rfl rfl rfl rfl (Nat.le_of_ble_eq_true rfl) (by decide) (by omega) (by omega) (fun v w h => ?_)
          obtain ⟨x32, rfl, e32, rfl⟩ := h
          change G E g [(h, .inr (2, [.int tag, .int fi, .int se, .ref fb, .int sz, .int su])), (fb, aB E (cap) (ff))] _ _ _ _ [.int x32]
          refine g_iload_n C dX0_subfieldStart_35 1 rfl ?_
          refine g_icmp_ne C 52 dX0_subfieldStart_36 (by decide) (fun c36 => ?_) (fun c36 => ?_)
          · refine g_iinc C dX0_subfieldStart_52 4 rfl (by omega) (by decide) (by omega) (fun x52 e52 => ?_)
            refine g_lvE (lv' := [(4, .int x52), (0, .ref h), (1, .int x), (2, .int y), (3, .int n3)]) rfl ?_
            refine g_goto C 5 dX0_subfieldStart_55 (by decide) ?_
            refine g_lv [1, 2, 3, 4, 0] (lv' := [(0, .ref h), (1, .int x), (2, .int y), (3, .int n3), (4, .int x52)]) rfl ?_
            exact ih5 (n3) (x52) (k + 1) (by omega) (by omega) (by omega) (by omega) (by first | (rw [hn, e49, sIx_go (by omega) (by omega) (by omega), show bd.length - 1 - k - 1 = bd.length - 1 - (k + 1) by omega]; done) | (rw [hn, sIx_no (by omega) (by omega), show bd.length - 1 - k - 1 = bd.length - 1 - (k + 1) by omega]; done))
          · refine g_iload_n C dX0_subfieldStart_39 3 rfl ?_
            refine g_iload_n C dX0_subfieldStart_40 2 rfl ?_
            refine g_icmp_ne C 49 dX0_subfieldStart_41 (by decide) (fun c41 => ?_) (fun c41 => ?_)
            · refine g_iinc C dX0_subfieldStart_49 3 rfl (by omega) (by decide) (by omega) (fun x49 e49 => ?_)
              refine g_lvE (lv' := [(3, .int x49), (0, .ref h), (1, .int x), (2, .int y), (4, .int n4)]) rfl ?_
              refine g_iinc C dX0_subfieldStart_52 4 rfl (by omega) (by decide) (by omega) (fun x52 e52 => ?_)
              refine g_lvE (lv' := [(4, .int x52), (3, .int x49), (0, .ref h), (1, .int x), (2, .int y)]) rfl ?_
              refine g_goto C 5 dX0_subfieldStart_55 (by decide) ?_
              refine g_lv [2, 3, 4, 1, 0] (lv' := [(0, .ref h), (1, .int x), (2, .int y), (3, .int x49), (4, .int x52)]) rfl ?_
              exact ih5 (x49) (x52) (k + 1) (by omega) (by omega) (by omega) (by omega) (by first | (rw [hn, e49, sIx_go (by omega) (by omega) (by omega), show bd.length - 1 - k - 1 = bd.length - 1 - (k + 1) by omega]; done) | (rw [hn, sIx_no (by omega) (by omega), show bd.length - 1 - k - 1 = bd.length - 1 - (k + 1) by omega]; done))
            · refine g_iload C dX0_subfieldStart_44 4 rfl ?_
              refine g_iconst C dX0_subfieldStart_46 (by decide) (fun x46 e46 => ?_)
              refine g_iadd C dX0_subfieldStart_47 (by omega) (fun x47 e47 => ?_)
              exact g_iret C F dX0_subfieldStart_48 rfl rfl (by omega) (by omega) (by refine ⟨_, rfl, ?_, rfl⟩; show _ = _; rw [hn, sIx_yes (by omega) (by omega) (by omega)]; omega)
  refine g_lv [2, 3, 4, 1, 0] (lv' := [(0, .ref h), (1, .int x), (2, .int y), (3, .int x0), (4, .int x2)]) rfl ?_
  exact loop5 _ (x0) (x2) (0) (Nat.lt_succ_self _) (by omega) (by omega) (by omega) (by rw [e0]; rfl)
set_option maxHeartbeats 1000000 in
set_option maxRecDepth 10000 in
theorem c_X0_subfieldEnd (l : Launch) (E : GE) (h fb cap : Nat) (ff : Nat → Int32) (tag fi se sz su : Int32) (bd : List Nat) (x : Int32) (st : Nat) (hsz : sz.toInt = (bd.length : Int)) (hB : Bs ff 0 bd) (h8 : B8 bd) (hle : bd.length ≤ cap) (hcap : cap ≤ 100000) (hx : x.toInt = (st : Int)) (hst : st ≤ bd.length) : Ctr l E yX0_subfieldEnd cX0_subfieldEnd 3 (some .int) 1 (0) (0) [.ref h, .int x] [(h, .inr (2, [.int tag, .int fi, .int se, .ref fb, .int sz, .int su])), (fb, aB E (cap) (ff))] (oI (fun r => r.toInt = (sEn bd (bd.length - st) st : Int)) [(h, .inr (2, [.int tag, .int fi, .int se, .ref fb, .int sz, .int su])), (fb, aB E (cap) (ff))]) := by
  refine Ctr.intro (by decide) (Nat.le_of_ble_eq_true rfl) (fun g hgl hN C r F hi => ?_)
  subst hgl
  change G E g [(h, .inr (2, [.int tag, .int fi, .int se, .ref fb, .int sz, .int su])), (fb, aB E (cap) (ff))] 0 0 0 [(0, .ref h), (1, .int x)] []
  refine g_iload_n C dX0_subfieldEnd_0 1 rfl ?_
  refine g_istore_n C dX0_subfieldEnd_1 (by omega) (lv' := [(2, .int x), (0, .ref h), (1, .int x)]) rfl ?_
  have loop2 : ∀ (nn : Nat) (n2 : Int32) (k : Nat) (hm : bd.length - k < nn) (hk : st ≤ k ∧ k ≤ bd.length) (hp : n2.toInt = (k : Int)) (hn : sEn bd (bd.length - st) st = sEn bd (bd.length - k) k), G E g [(h, .inr (2, [.int tag, .int fi, .int se, .ref fb, .int sz, .int su])), (fb, aB E (cap) (ff))] 0 0 2 [(0, .ref h), (1, .int x), (2, .int n2)] [] := by
    intro nn
    induction nn with
    | zero => intro n2 k hm hk hp hn; omega
    | succ nn ih2 =>
      intro n2 k hm hk hp hn
      refine g_iload_n C dX0_subfieldEnd_2 2 rfl ?_
      refine g_aload_n C dX0_subfieldEnd_3 0 rfl ?_
      refine gf_X0_25 C 0 rfl rfl dX0_subfieldEnd_4 ?_
      refine g_icmp_ge C 28 dX0_subfieldEnd_7 (by decide) (fun c7 => ?_) (fun c7 => ?_)
      · refine g_aload_n C dX0_subfieldEnd_28 0 rfl ?_
        refine gf_X0_25 C 0 rfl rfl dX0_subfieldEnd_29 ?_
        exact g_iret C F dX0_subfieldEnd_32 rfl rfl (by omega) (by omega) (by refine ⟨_, rfl, ?_, rfl⟩; show _ = _; rw [hn, sEn_zero (by omega)]; omega)
      · refine g_aload_n C dX0_subfieldEnd_10 0 rfl ?_
        refine g_iload_n C dX0_subfieldEnd_11 2 rfl ?_
        refine g_callV C r mv_X0_45 dX0_subfieldEnd_12 (c_X0_at' g.l E h fb cap ff tag fi se sz su bd n2 (k) hsz hB h8 hle hcap (by omega) (by omega)) (wr := []) (As := [.int n2]) (rest := []) (Spl.at [] [0, 1] rfl rfl rfl) 0 rfl rfl rfl rfl (Nat.le_of_ble_eq_true rfl) (by decide) (by omega) (by omega) (fun v w h => ?_)
        obtain ⟨x12, rfl, e12, rfl⟩ := h
        change G E g [(h, .inr (2, [.int tag, .int fi, .int se, .ref fb, .int sz, .int su])), (fb, aB E (cap) (ff))] _ _ _ _ [.int x12]
        refine g_bipush C dX0_subfieldEnd_15 (by decide) (fun x15 e15 => ?_)
        refine g_icmp_ne C 22 dX0_subfieldEnd_17 (by decide) (fun c17 => ?_) (fun c17 => ?_)
        · refine g_iinc C dX0_subfieldEnd_22 2 rfl (by omega) (by decide) (by omega) (fun x22 e22 => ?_)
          refine g_lvE (lv' := [(2, .int x22), (0, .ref h), (1, .int x)]) rfl ?_
          refine g_goto C 2 dX0_subfieldEnd_25 (by decide) ?_
          refine g_lv [1, 2, 0] (lv' := [(0, .ref h), (1, .int x), (2, .int x22)]) rfl ?_
          exact ih2 (x22) (k + 1) (by omega) (by omega) (by omega) (by rw [hn, sEn_miss (by omega) (by omega), show bd.length - k - 1 = bd.length - (k + 1) by omega])
        · refine g_iload_n C dX0_subfieldEnd_20 2 rfl ?_
          exact g_iret C F dX0_subfieldEnd_21 rfl rfl (by omega) (by omega) (by refine ⟨_, rfl, ?_, rfl⟩; show _ = _; rw [hn, sEn_hit (by omega) (by omega)]; omega)
  refine g_lv [1, 2, 0] (lv' := [(0, .ref h), (1, .int x), (2, .int x)]) rfl ?_
  exact loop2 _ (x) (st) (Nat.lt_succ_self _) (by omega) (by omega) (by rfl)
set_option maxHeartbeats 1000000 in
set_option maxRecDepth 10000 in
theorem c_X0_lastCode (l : Launch) (E : GE) (h fb cap : Nat) (ff : Nat → Int32) (tag fi se sz su : Int32) (bd : List Nat)  (hsz : sz.toInt = (bd.length : Int)) (hB : Bs ff 0 bd) (h8 : B8 bd) (hle : bd.length ≤ cap) (hcap : cap ≤ 100000) : Ctr l E yX0_lastCode cX0_lastCode 2 (some .int) 1 (0) (0) [.ref h] [(h, .inr (2, [.int tag, .int fi, .int se, .ref fb, .int sz, .int su])), (fb, aB E (cap) (ff))] (oI (fun r => r.toInt = lCn bd bd.length) [(h, .inr (2, [.int tag, .int fi, .int se, .ref fb, .int sz, .int su])), (fb, aB E (cap) (ff))]) := by
  refine Ctr.intro (by decide) (Nat.le_of_ble_eq_true rfl) (fun g hgl hN C r F hi => ?_)
  subst hgl
  change G E g [(h, .inr (2, [.int tag, .int fi, .int se, .ref fb, .int sz, .int su])), (fb, aB E (cap) (ff))] 0 0 0 [(0, .ref h)] []
  refine g_aload_n C dX0_lastCode_0 0 rfl ?_
  refine gf_X0_25 C 0 rfl rfl dX0_lastCode_1 ?_
  refine g_iconst C dX0_lastCode_4 (by decide) (fun x4 e4 => ?_)
  refine g_isub C dX0_lastCode_5 (by omega) (fun x5 e5 => ?_)
  refine g_istore_n C dX0_lastCode_6 (by omega) (lv' := [(1, .int x5), (0, .ref h)]) rfl ?_
  have loop7 : ∀ (nn : Nat) (n1 : Int32) (k : Nat) (hm : k < nn) (hk : k ≤ bd.length) (hp : n1.toInt = (k : Int) - 1) (hn : lCn bd bd.length = lCn bd k), G E g [(h, .inr (2, [.int tag, .int fi, .int se, .ref fb, .int sz, .int su])), (fb, aB E (cap) (ff))] 0 0 7 [(0, .ref h), (1, .int n1)] [] := by
    intro nn
    induction nn with
    | zero => intro n1 k hm hk hp hn; omega
    | succ nn ih7 =>
      intro n1 k hm hk hp hn
      refine g_iload_n C dX0_lastCode_7 1 rfl ?_
      refine g_if_lt C 35 dX0_lastCode_8 (by decide) (fun c8 => ?_) (fun c8 => ?_)
      · refine g_iconst C dX0_lastCode_35 (by decide) (fun x35 e35 => ?_)
        exact g_iret C F dX0_lastCode_36 rfl rfl (by omega) (by omega) (by refine ⟨_, rfl, ?_, rfl⟩; show _ = _; rw [hn, show k = 0 by omega]; exact e35)
      · refine g_aload_n C dX0_lastCode_11 0 rfl ?_
        refine g_iload_n C dX0_lastCode_12 1 rfl ?_
        refine g_callV C r mv_X0_45 dX0_lastCode_13 (c_X0_at' g.l E h fb cap ff tag fi se sz su bd n1 (k - 1) hsz hB h8 hle hcap (by omega) (by omega)) (wr := []) (As := [.int n1]) (rest := []) (Spl.at [] [0, 1] rfl rfl rfl) 0 rfl rfl rfl rfl (Nat.le_of_ble_eq_true rfl) (by decide) (by omega) (by omega) (fun v w h => ?_)
        obtain ⟨x13, rfl, e13, rfl⟩ := h
        change G E g [(h, .inr (2, [.int tag, .int fi, .int se, .ref fb, .int sz, .int su])), (fb, aB E (cap) (ff))] _ _ _ _ [.int x13]
        refine g_bipush C dX0_lastCode_16 (by decide) (fun x16 e16 => ?_)
        refine g_icmp_ne C 29 dX0_lastCode_18 (by decide) (fun c18 => ?_) (fun c18 => ?_)
        · refine g_iinc C dX0_lastCode_29 1 rfl (by omega) (by decide) (by omega) (fun x29 e29 => ?_)
          refine g_lvE (lv' := [(1, .int x29), (0, .ref h)]) rfl ?_
          refine g_goto C 7 dX0_lastCode_32 (by decide) ?_
          refine g_lv [1, 0] (lv' := [(0, .ref h), (1, .int x29)]) rfl ?_
          exact ih7 (x29) (k - 1) (by omega) (by omega) (by omega) (by obtain ⟨k, rfl⟩ : ∃ z, k = z + 1 := ⟨k - 1, by omega⟩; rw [hn]; simp only [lCn]; rw [if_neg (by simp only [Nat.add_sub_cancel] at e13; omega)]; rfl)
        · refine g_aload_n C dX0_lastCode_21 0 rfl ?_
          refine g_iload_n C dX0_lastCode_22 1 rfl ?_
          refine g_iconst C dX0_lastCode_23 (by decide) (fun x23 e23 => ?_)
          refine g_iadd C dX0_lastCode_24 (by omega) (fun x24 e24 => ?_)
          refine g_callV C r mv_X0_45 dX0_lastCode_25 (c_X0_at g.l E h fb cap ff tag fi se sz su bd x24 hsz hB h8 hle hcap) (wr := []) (As := [.int x24]) (rest := []) (Spl.at [] [0, 1] rfl rfl rfl) 0 rfl rfl rfl rfl (Nat.le_of_ble_eq_true rfl) (by decide) (by omega) (by omega) (fun v w h => ?_)
          obtain ⟨x25, rfl, e25, rfl⟩ := h
          change G E g [(h, .inr (2, [.int tag, .int fi, .int se, .ref fb, .int sz, .int su])), (fb, aB E (cap) (ff))] _ _ _ _ [.int x25]
          exact g_iret C F dX0_lastCode_28 rfl rfl (by omega) (by omega) (by refine ⟨_, rfl, ?_, rfl⟩; show _ = _; obtain ⟨k, rfl⟩ : ∃ z, k = z + 1 := ⟨k - 1, by omega⟩; rw [hn]; simp only [lCn]; rw [if_pos (by simp only [Nat.add_sub_cancel] at e13; omega), e25, show x24.toInt = (k : Int) + 1 by omega])
  refine g_lv [1, 0] (lv' := [(0, .ref h), (1, .int x5)]) rfl ?_
  exact loop7 _ (x5) (bd.length) (Nat.lt_succ_self _) (by omega) (by omega) (by rfl)
set_option maxHeartbeats 1000000 in
set_option maxRecDepth 10000 in
theorem c_X0_append (l : Launch) (E : GE) (h fb cap : Nat) (ff : Nat → Int32) (tag fi se sz su : Int32) (bd : List Nat) (x : Int32) (mc ms : Nat) (hsz : sz.toInt = (bd.length : Int)) (hB : Bs ff 0 bd) (h8 : B8 bd) (hle : bd.length ≤ cap) (hcap : cap ≤ 100000) (hBF : BF ff) (hc16 : 16 ≤ cap) (hsu : su.toInt = (c31 bd : Int)) (hm : bd.length < cap ∨ (1 ≤ mc ∧ 2 * cap ≤ ms)) : Ctr l E yX0_append cX0_append 2 none 3 (mc) (ms) [.ref h, .int x] [(h, .inr (2, [.int tag, .int fi, .int se, .ref fb, .int sz, .int su])), (fb, aB E (cap) (ff))] (fun v w => v = none ∧ ∃ (q n : Nat) (f2 : Nat → Int32) (s u : Int32), s.toInt = ((bd.length + 1 : Nat) : Int) ∧ Bs f2 0 (bd ++ [u8 x]) ∧ BF f2 ∧ ((bd.length < cap ∧ n = cap) ∨ (bd.length = cap ∧ n = 2 * cap)) ∧ ((0 ≤ x.toInt ∧ x.toInt < 256) → u.toInt = (c31 (bd ++ [u8 x]) : Int)) ∧ w = [(h, .inr (2, [.int tag, .int fi, .int se, .ref q, .int s, .int u])), (q, aB E n f2)]) := by
  refine Ctr.intro (by decide) (Nat.le_of_ble_eq_true rfl) (fun g hgl hN C r F hi => ?_)
  subst hgl
  have hc31 := c31_le bd
  change G E g [(h, .inr (2, [.int tag, .int fi, .int se, .ref fb, .int sz, .int su])), (fb, aB E (cap) (ff))] 0 0 0 [(0, .ref h), (1, .int x)] []
  refine g_aload_n C dX0_append_0 0 rfl ?_
  refine gf_X0_25 C 0 rfl rfl dX0_append_1 ?_
  refine g_aload_n C dX0_append_4 0 rfl ?_
  refine gf_X0_11 C 0 rfl rfl dX0_append_5 ?_
  refine g_alenB C 1 rfl dX0_append_8 (by omega) (fun x8 e8 => ?_)
  refine g_icmp_lt C 29 dX0_append_9 (by decide) (fun c9 => ?_) (fun c9 => ?_)
  · refine g_aload_n C dX0_append_29 0 rfl ?_
    refine gf_X0_11 C 0 rfl rfl dX0_append_30 ?_
    refine g_aload_n C dX0_append_33 0 rfl ?_
    refine gf_X0_25 C 0 rfl rfl dX0_append_34 ?_
    refine g_iload_n C dX0_append_37 1 rfl ?_
    refine g_i2b C dX0_append_38 (fun x38 e38 => ?_)
    refine g_bastore C 1 rfl dX0_append_39 (0 + bd.length) (by omega) (by omega) ?_
    change G E g [(h, .inr (2, [.int tag, .int fi, .int se, .ref fb, .int sz, .int su])), (fb, aB E (cap) (upd (ff) (0 + bd.length) (sB (u8 x38))))] _ _ _ _ _
    refine g_aload_n C dX0_append_40 0 rfl ?_
    refine g_dup C dX0_append_41 rfl ?_
    refine gf_X0_25 C 0 rfl rfl dX0_append_42 ?_
    refine g_iconst C dX0_append_45 (by decide) (fun x45 e45 => ?_)
    refine g_iadd C dX0_append_46 (by omega) (fun x46 e46 => ?_)
    refine gp_X0_25 C 0 rfl (Nat.le_of_ble_eq_true rfl) rfl rfl dX0_append_47 ?_
    change G E g [(h, .inr (2, [.int tag, .int fi, .int se, .ref fb, .int x46, .int su])), (fb, aB E (cap) (upd (ff) (0 + bd.length) (sB (u8 x38))))] _ _ _ _ _
    refine g_iload_n C dX0_append_50 1 rfl ?_
    refine g_bipush C dX0_append_51 (by decide) (fun x51 e51 => ?_)
    refine g_icmp_ne C 66 dX0_append_53 (by decide) (fun c53 => ?_) (fun c53 => ?_)
    · exact g_vret C F dX0_append_66 (by omega) (by omega) (by first | exact ⟨rfl, _, _, _, _, _, by omega, ap_B hB e38, ap_F hBF e38, by omega, ap_c hsu (by omega) (by omega), rfl⟩ | exact ⟨rfl, _, _, _, _, _, by omega, ap_B (cpy_Bs hB hle) e38, ap_F (cpy_BF hBF BF_0) e38, by omega, ap_c hsu (by omega) (by omega), rfl⟩)
    · refine g_aload_n C dX0_append_56 0 rfl ?_
      refine g_dup C dX0_append_57 rfl ?_
      refine gf_X0_28 C 0 rfl rfl dX0_append_58 ?_
      refine g_iconst C dX0_append_61 (by decide) (fun x61 e61 => ?_)
      refine g_iadd C dX0_append_62 (by omega) (fun x62 e62 => ?_)
      refine gp_X0_28 C 0 rfl (Nat.le_of_ble_eq_true rfl) rfl rfl dX0_append_63 ?_
      change G E g [(h, .inr (2, [.int tag, .int fi, .int se, .ref fb, .int x46, .int x62])), (fb, aB E (cap) (upd (ff) (0 + bd.length) (sB (u8 x38))))] _ _ _ _ _
      exact g_vret C F dX0_append_66 (by omega) (by omega) (by first | exact ⟨rfl, _, _, _, _, _, by omega, ap_B hB e38, ap_F hBF e38, by omega, ap_c hsu (by omega) (by omega), rfl⟩ | exact ⟨rfl, _, _, _, _, _, by omega, ap_B (cpy_Bs hB hle) e38, ap_F (cpy_BF hBF BF_0) e38, by omega, ap_c hsu (by omega) (by omega), rfl⟩)
  · refine g_aload_n C dX0_append_12 0 rfl ?_
    refine g_aload_n C dX0_append_13 0 rfl ?_
    refine gf_X0_11 C 0 rfl rfl dX0_append_14 ?_
    refine g_aload_n C dX0_append_17 0 rfl ?_
    refine gf_X0_25 C 0 rfl rfl dX0_append_18 ?_
    refine g_iconst C dX0_append_21 (by decide) (fun x21 e21 => ?_)
    refine g_imul C dX0_append_22 (sz.toInt * 2) (by rw [e21]) (by omega) (fun x22 e22 => ?_)
    refine g_callS C r ms_X0_31 dX0_append_23 (c_J7_copyOf g.l E fb cap ff x22 (by omega) (by omega) (by omega) hBF) (wr := [(h, .inr (2, [.int tag, .int fi, .int se, .ref fb, .int sz, .int su]))]) (As := [.ref fb, .int x22]) (rest := [.ref h]) (Spl.at [0] [1] rfl rfl rfl) rfl (Nat.le_of_ble_eq_true rfl) (by decide) (by omega) (by omega) (fun v w h => ?_)
    obtain ⟨q23, rfl, rfl⟩ := h
    change G E g [(h, .inr (2, [.int tag, .int fi, .int se, .ref fb, .int sz, .int su])), (fb, aB E (cap) (ff)), (q23, aB E (2 * cap) (va_cpy ff (fun _ => 0) 0 0 cap))] _ _ _ _ [.ref q23, .ref h]
    refine gp_X0_11 C 0 rfl (Nat.le_of_ble_eq_true rfl) rfl rfl dX0_append_26 ?_
    change G E g [(h, .inr (2, [.int tag, .int fi, .int se, .ref q23, .int sz, .int su])), (fb, aB E (cap) (ff)), (q23, aB E (2 * cap) (va_cpy ff (fun _ => 0) 0 0 cap))] _ _ _ _ _
    refine g_aload_n C dX0_append_29 0 rfl ?_
    refine gf_X0_11 C 0 rfl rfl dX0_append_30 ?_
    refine g_aload_n C dX0_append_33 0 rfl ?_
    refine gf_X0_25 C 0 rfl rfl dX0_append_34 ?_
    refine g_iload_n C dX0_append_37 1 rfl ?_
    refine g_i2b C dX0_append_38 (fun x38 e38 => ?_)
    refine g_bastore C 2 rfl dX0_append_39 (0 + bd.length) (by omega) (by omega) ?_
    change G E g [(h, .inr (2, [.int tag, .int fi, .int se, .ref q23, .int sz, .int su])), (fb, aB E (cap) (ff)), (q23, aB E (2 * cap) (upd (va_cpy ff (fun _ => 0) 0 0 cap) (0 + bd.length) (sB (u8 x38))))] _ _ _ _ _
    refine g_aload_n C dX0_append_40 0 rfl ?_
    refine g_dup C dX0_append_41 rfl ?_
    refine gf_X0_25 C 0 rfl rfl dX0_append_42 ?_
    refine g_iconst C dX0_append_45 (by decide) (fun x45 e45 => ?_)
    refine g_iadd C dX0_append_46 (by omega) (fun x46 e46 => ?_)
    refine gp_X0_25 C 0 rfl (Nat.le_of_ble_eq_true rfl) rfl rfl dX0_append_47 ?_
    change G E g [(h, .inr (2, [.int tag, .int fi, .int se, .ref q23, .int x46, .int su])), (fb, aB E (cap) (ff)), (q23, aB E (2 * cap) (upd (va_cpy ff (fun _ => 0) 0 0 cap) (0 + bd.length) (sB (u8 x38))))] _ _ _ _ _
    refine g_iload_n C dX0_append_50 1 rfl ?_
    refine g_bipush C dX0_append_51 (by decide) (fun x51 e51 => ?_)
    refine g_icmp_ne C 66 dX0_append_53 (by decide) (fun c53 => ?_) (fun c53 => ?_)
    · refine g_perm [0, 2] rfl (ws' := [(h, .inr (2, [.int tag, .int fi, .int se, .ref q23, .int x46, .int su])), (q23, aB E (2 * cap) (upd (va_cpy ff (fun _ => 0) 0 0 cap) (0 + bd.length) (sB (u8 x38))))]) rfl ?_
      exact g_vret C F dX0_append_66 (by omega) (by omega) (by first | exact ⟨rfl, _, _, _, _, _, by omega, ap_B hB e38, ap_F hBF e38, by omega, ap_c hsu (by omega) (by omega), rfl⟩ | exact ⟨rfl, _, _, _, _, _, by omega, ap_B (cpy_Bs hB hle) e38, ap_F (cpy_BF hBF BF_0) e38, by omega, ap_c hsu (by omega) (by omega), rfl⟩)
    · refine g_aload_n C dX0_append_56 0 rfl ?_
      refine g_dup C dX0_append_57 rfl ?_
      refine gf_X0_28 C 0 rfl rfl dX0_append_58 ?_
      refine g_iconst C dX0_append_61 (by decide) (fun x61 e61 => ?_)
      refine g_iadd C dX0_append_62 (by omega) (fun x62 e62 => ?_)
      refine gp_X0_28 C 0 rfl (Nat.le_of_ble_eq_true rfl) rfl rfl dX0_append_63 ?_
      change G E g [(h, .inr (2, [.int tag, .int fi, .int se, .ref q23, .int x46, .int x62])), (fb, aB E (cap) (ff)), (q23, aB E (2 * cap) (upd (va_cpy ff (fun _ => 0) 0 0 cap) (0 + bd.length) (sB (u8 x38))))] _ _ _ _ _
      refine g_perm [0, 2] rfl (ws' := [(h, .inr (2, [.int tag, .int fi, .int se, .ref q23, .int x46, .int x62])), (q23, aB E (2 * cap) (upd (va_cpy ff (fun _ => 0) 0 0 cap) (0 + bd.length) (sB (u8 x38))))]) rfl ?_
      exact g_vret C F dX0_append_66 (by omega) (by omega) (by first | exact ⟨rfl, _, _, _, _, _, by omega, ap_B hB e38, ap_F hBF e38, by omega, ap_c hsu (by omega) (by omega), rfl⟩ | exact ⟨rfl, _, _, _, _, _, by omega, ap_B (cpy_Bs hB hle) e38, ap_F (cpy_BF hBF BF_0) e38, by omega, ap_c hsu (by omega) (by omega), rfl⟩)
end
section
theorem nM2 (b : Nat → Nat) (fr : Nat) : (29 ≤ b fr ∧ b fr ≤ 31 ∧ nM b fr 2 = (fr : Int)) ∨ (¬ (29 ≤ b fr ∧ b fr ≤ 31) ∧ 29 ≤ b (fr + 1) ∧ b (fr + 1) ≤ 31 ∧ nM b fr 2 = (fr : Int) + 1) ∨ (¬ (29 ≤ b fr ∧ b fr ≤ 31) ∧ ¬ (29 ≤ b (fr + 1) ∧ b (fr + 1) ≤ 31) ∧ nM b fr 2 = -1) := by
  by_cases h1 : 29 ≤ b fr ∧ b fr ≤ 31
  · left; exact ⟨h1.1, h1.2, nM_hit h1 (by omega)⟩
  · right
    rw [nM_miss h1 (by omega)]
    by_cases h2 : 29 ≤ b (fr + 1) ∧ b (fr + 1) ≤ 31
    · left; exact ⟨h1, h2.1, h2.2, by rw [nM_hit h2 (by omega)]; omega⟩
    · right
      refine ⟨h1, h2, ?_⟩
      rw [nM_miss h2 (by omega)]
      exact nM_zero rfl
theorem wEnd_d (b : Nat → Nat) (la : Nat) : (b la = 30 ∧ wEnd b la = -1) ∨ (b la ≠ 30 ∧ wEnd b la = (la : Int)) := by
  unfold wEnd; split
  · left; constructor <;> first | assumption | rfl
  · right; constructor <;> first | assumption | rfl
theorem wOth_1 {b : Nat → Nat} {fr la : Nat} (h : nM b fr 2 ≠ -1) : wOth b fr la = nM b fr 2 := by unfold wOth; rw [if_pos h]
theorem wOth_2 {b : Nat → Nat} {fr la : Nat} (h : nM b fr 2 = -1) (h2 : fr + 2 < la ∧ b (fr + 2) ≠ 31) : wOth b fr la = ((fr + 2 : Nat) : Int) := by unfold wOth; rw [if_neg (by omega), if_pos h2]
theorem wOth_3 {b : Nat → Nat} {fr la : Nat} (h : nM b fr 2 = -1) (h2 : ¬ (fr + 2 < la ∧ b (fr + 2) ≠ 31)) {x : Int} (hx : fI (badO b la) (fr + 2) (la - (fr + 2)) = x) (h3 : x ≠ -1) : wOth b fr la = x := by unfold wOth; rw [if_neg (by omega), if_neg h2, if_pos (by omega), hx]
theorem wOth_4 {b : Nat → Nat} {fr la : Nat} (h : nM b fr 2 = -1) (h2 : ¬ (fr + 2 < la ∧ b (fr + 2) ≠ 31)) (hx : fI (badO b la) (fr + 2) (la - (fr + 2)) = -1) : wOth b fr la = wEnd b la := by unfold wOth; rw [if_neg (by omega), if_neg h2, if_neg (by omega)]
theorem wCtl_1 {b : Nat → Nat} {fr la : Nat} (h : nM b fr (la - fr) ≠ -1) : wCtl b fr la = nM b fr (la - fr) := by unfold wCtl; rw [if_pos h]
theorem wCtl_2 {b : Nat → Nat} {fr la : Nat} (h : nM b fr (la - fr) = -1) : wCtl b fr la = wEnd b la := by unfold wCtl; rw [if_neg (by omega)]
theorem bl1 {x : Int32} {P Q : Prop} (h : (x.toInt = 1 ∧ P) ∨ (x.toInt = 0 ∧ Q)) (c : ¬ x.toInt = 0) : P := h.elim (fun a => a.2) (fun a => absurd a.1 c)
theorem bl0 {x : Int32} {P Q : Prop} (h : (x.toInt = 1 ∧ P) ∨ (x.toInt = 0 ∧ Q)) (c : x.toInt = 0) : Q := h.elim (fun a => by omega) (fun a => a.2)
end
section
set_option maxHeartbeats 1000000 in
set_option maxRecDepth 10000 in
theorem c_X4_isMark (l : Launch) (E : GE) (x : Int32)  : Ctr l E yX4_isMark cX4_isMark 1 (some .boolean) 0 (0) (0) [.int x] [] (oI (fun r => (r.toInt = 1 ∧ 29 ≤ x.toInt ∧ x.toInt ≤ 31) ∨ (r.toInt = 0 ∧ ¬ (29 ≤ x.toInt ∧ x.toInt ≤ 31))) []) := by
  refine Ctr.intro (by decide) (Nat.le_of_ble_eq_true rfl) (fun g hgl hN C r F hi => ?_)
  subst hgl
  change G E g [] 0 0 0 [(0, .int x)] []
  refine g_iload_n C dX4_isMark_0 0 rfl ?_
  refine g_bipush C dX4_isMark_1 (by decide) (fun x1 e1 => ?_)
  refine g_icmp_lt C 16 dX4_isMark_3 (by decide) (fun c3 => ?_) (fun c3 => ?_)
  · refine g_iconst C dX4_isMark_16 (by decide) (fun x16 e16 => ?_)
    exact g_iret C F dX4_isMark_17 rfl (nz_b x16 (by omega)) (Nat.le_refl _) (Nat.le_refl _) (by exact ⟨_, rfl, by omega, rfl⟩)
  · refine g_iload_n C dX4_isMark_6 0 rfl ?_
    refine g_bipush C dX4_isMark_7 (by decide) (fun x7 e7 => ?_)
    refine g_icmp_gt C 16 dX4_isMark_9 (by decide) (fun c9 => ?_) (fun c9 => ?_)
    · refine g_iconst C dX4_isMark_16 (by decide) (fun x16 e16 => ?_)
      exact g_iret C F dX4_isMark_17 rfl (nz_b x16 (by omega)) (Nat.le_refl _) (Nat.le_refl _) (by exact ⟨_, rfl, by omega, rfl⟩)
    · refine g_iconst C dX4_isMark_12 (by decide) (fun x12 e12 => ?_)
      refine g_goto C 17 dX4_isMark_13 (by decide) ?_
      exact g_iret C F dX4_isMark_17 rfl (nz_b x12 (by omega)) (Nat.le_refl _) (Nat.le_refl _) (by exact ⟨_, rfl, by omega, rfl⟩)
set_option maxHeartbeats 1000000 in
set_option maxRecDepth 10000 in
theorem c_X4_look (l : Launch) (E : GE) (m ib : Nat) (f : Nat → Int32) (sz pl wr : Int32) (u0 u4 u5 u6 u7 u8 u9 u10 u11 u12 u13 u14 : Value) (S P : Nat) (x : Int32) (k : Nat) (hS : sz.toInt = (S : Int)) (hP : pl.toInt = (P : Int)) (hPS : P ≤ S) (hSm : S ≤ 1500) (hx : x.toInt = (k : Int)) (hl : k < S - P) : Ctr l E yX4_look cX4_look 2 (some .int) 0 (0) (0) [.ref m, .int x] [(m, .inr (6, [u0, .ref ib, .int sz, .int pl, u4, u5, u6, u7, u8, u9, u10, u11, u12, u13, u14, .int wr])), (ib, aB E (1500) (f))] (oI (fun r => r.toInt = (lk f P k : Int)) [(m, .inr (6, [u0, .ref ib, .int sz, .int pl, u4, u5, u6, u7, u8, u9, u10, u11, u12, u13, u14, .int wr])), (ib, aB E (1500) (f))]) := by
  refine Ctr.intro (by decide) (Nat.le_of_ble_eq_true rfl) (fun g hgl hN C r F hi => ?_)
  subst hgl
  change G E g [(m, .inr (6, [u0, .ref ib, .int sz, .int pl, u4, u5, u6, u7, u8, u9, u10, u11, u12, u13, u14, .int wr])), (ib, aB E (1500) (f))] 0 0 0 [(0, .ref m), (1, .int x)] []
  refine g_aload_n C dX4_look_0 0 rfl ?_
  refine gf_X4_7 C 0 rfl rfl dX4_look_1 ?_
  refine g_aload_n C dX4_look_4 0 rfl ?_
  refine gf_X4_44 C 0 rfl rfl dX4_look_5 ?_
  refine g_iload_n C dX4_look_8 1 rfl ?_
  refine g_iadd C dX4_look_9 (by omega) (fun x9 e9 => ?_)
  refine g_baload C 1 rfl dX4_look_10 (P + k) (by omega) (by omega) (fun x10 e10 => ?_)
  refine g_sipush C dX4_look_11 (by decide) (fun x11 e11 => ?_)
  refine g_iand255 C dX4_look_14 e11 (fun x14 e14 l14 => ?_)
  exact g_iret C F dX4_look_15 rfl rfl (Nat.le_refl _) (Nat.le_refl _) (by refine ⟨_, rfl, ?_, rfl⟩; show _ = _; rw [e14, e10]; rfl)
set_option maxHeartbeats 1000000 in
set_option maxRecDepth 10000 in
theorem c_X4_bad (l : Launch) (E : GE) (m ib : Nat) (sz pl wr : Int32) (u0 u4 u5 u6 u7 u8 u9 u10 u11 u12 u13 u14 : Value) (x : Int32)  : Ctr l E yX4_bad cX4_bad 2 (some .boolean) 0 (0) (0) [.ref m, .int x] [(m, .inr (6, [u0, .ref ib, .int sz, .int pl, u4, u5, u6, u7, u8, u9, u10, u11, u12, u13, u14, .int wr]))] (oI (fun r => r.toInt = 0) [(m, .inr (6, [u0, .ref ib, .int sz, .int pl, u4, u5, u6, u7, u8, u9, u10, u11, u12, u13, u14, .int x]))]) := by
  refine Ctr.intro (by decide) (Nat.le_of_ble_eq_true rfl) (fun g hgl hN C r F hi => ?_)
  subst hgl
  change G E g [(m, .inr (6, [u0, .ref ib, .int sz, .int pl, u4, u5, u6, u7, u8, u9, u10, u11, u12, u13, u14, .int wr]))] 0 0 0 [(0, .ref m), (1, .int x)] []
  refine g_aload_n C dX4_bad_0 0 rfl ?_
  refine g_iload_n C dX4_bad_1 1 rfl ?_
  refine gp_X4_47 C 0 rfl (Nat.le_of_ble_eq_true rfl) rfl rfl dX4_bad_2 ?_
  change G E g [(m, .inr (6, [u0, .ref ib, .int sz, .int pl, u4, u5, u6, u7, u8, u9, u10, u11, u12, u13, u14, .int x]))] _ _ _ _ _
  refine g_iconst C dX4_bad_5 (by decide) (fun x5 e5 => ?_)
  exact g_iret C F dX4_bad_6 rfl (nz_b x5 (by omega)) (Nat.le_refl _) (Nat.le_refl _) (by exact ⟨_, rfl, by omega, rfl⟩)
set_option maxHeartbeats 1000000 in
set_option maxRecDepth 10000 in
theorem c_X4_number (l : Launch) (E : GE) (m ib : Nat) (f : Nat → Int32) (sz pl wr : Int32) (u0 u4 u5 u6 u7 u8 u9 u10 u11 u12 u13 u14 : Value) (S P : Nat) (x y : Int32) (fr dg : Nat) (hS : sz.toInt = (S : Int)) (hP : pl.toInt = (P : Int)) (hPS : P ≤ S) (hSm : S ≤ 1500) (hx : x.toInt = (fr : Int)) (hy : y.toInt = (dg : Int)) (hd : dg ≤ 5) (hl : fr + dg ≤ S - P) : Ctr l E yX4_number cX4_number 5 (some .int) 1 (0) (0) [.ref m, .int x, .int y] [(m, .inr (6, [u0, .ref ib, .int sz, .int pl, u4, u5, u6, u7, u8, u9, u10, u11, u12, u13, u14, .int wr])), (ib, aB E (1500) (f))] (oI (fun r => r.toInt = numI (lk f P) fr dg) [(m, .inr (6, [u0, .ref ib, .int sz, .int pl, u4, u5, u6, u7, u8, u9, u10, u11, u12, u13, u14, .int wr])), (ib, aB E (1500) (f))]) := by
  refine Ctr.intro (by decide) (Nat.le_of_ble_eq_true rfl) (fun g hgl hN C r F hi => ?_)
  subst hgl
  have hb8 := lk_lt f P
  change G E g [(m, .inr (6, [u0, .ref ib, .int sz, .int pl, u4, u5, u6, u7, u8, u9, u10, u11, u12, u13, u14, .int wr])), (ib, aB E (1500) (f))] 0 0 0 [(0, .ref m), (1, .int x), (2, .int y)] []
  refine g_iconst C dX4_number_0 (by decide) (fun x0 e0 => ?_)
  refine g_istore_n C dX4_number_1 (by rw [hN]; decide) (lv' := [(3, .int x0), (0, .ref m), (1, .int x), (2, .int y)]) rfl ?_
  refine g_iload_n C dX4_number_2 2 rfl ?_
  refine g_istore C dX4_number_3 (by rw [hN]; decide) (lv' := [(4, .int x), (3, .int x0), (0, .ref m), (1, .int x), (2, .int y)]) rfl ?_
  have loop5 : ∀ (nn : Nat) (n4 : Int32) (n3 : Int32) (k : Nat) (hm : dg - k < nn) (hk : k ≤ dg) (hp : n4.toInt = ((fr + k : Nat) : Int)) (hn : n3.toInt = numI (lk f P) fr k), G E g [(m, .inr (6, [u0, .ref ib, .int sz, .int pl, u4, u5, u6, u7, u8, u9, u10, u11, u12, u13, u14, .int wr])), (ib, aB E (1500) (f))] 0 0 5 [(0, .ref m), (1, .int x), (2, .int y), (3, .int n3), (4, .int n4)] [] := by
    intro nn
    induction nn with
    | zero => intro n4 n3 k hm hk hp hn; omega
    | succ nn ih5 =>
      intro n4 n3 k hm hk hp hn
      have hb := numI_bd hb8 fr k (by omega)
      refine g_iload C dX4_number_5 4 rfl ?_
      refine g_iload_n C dX4_number_7 1 rfl ?_
      refine g_iload_n C dX4_number_8 2 rfl ?_
      refine g_iadd C dX4_number_9 (by omega) (fun x9 e9 => ?_)
      refine g_icmp_ge C 34 dX4_number_10 (by decide) (fun c10 => ?_) (fun c10 => ?_)
      · refine g_iload_n C dX4_number_34 3 rfl ?_
        exact g_iret C F dX4_number_35 rfl rfl (Nat.le_refl _) (Nat.le_refl _) (by refine ⟨_, rfl, ?_, rfl⟩; show n3.toInt = _; rw [hn, show k = dg by omega])
      · refine g_bipush C dX4_number_13 (by decide) (fun x13 e13 => ?_)
        refine g_iload_n C dX4_number_15 3 rfl ?_
        refine g_imul C dX4_number_16 (10 * n3.toInt) (by rw [e13]) (by omega) (fun x16 e16 => ?_)
        refine g_aload_n C dX4_number_17 0 rfl ?_
        refine g_iload C dX4_number_18 4 rfl ?_
        refine g_callV C r mv_X4_50 dX4_number_20 (c_X4_look g.l E m ib f sz pl wr u0 u4 u5 u6 u7 u8 u9 u10 u11 u12 u13 u14 S P n4 (fr + k) hS hP hPS hSm (by omega) (by omega)) (wr := []) (As := [.int n4]) (rest := [.int x16]) (Spl.at [] [0, 1] rfl rfl rfl) 0 rfl rfl rfl rfl (Nat.le_of_ble_eq_true rfl) (by decide) (Nat.le_refl _) (Nat.le_refl _) (fun v w h => ?_)
        obtain ⟨x20, rfl, e20, rfl⟩ := h
        change G E g [(m, .inr (6, [u0, .ref ib, .int sz, .int pl, u4, u5, u6, u7, u8, u9, u10, u11, u12, u13, u14, .int wr])), (ib, aB E (1500) (f))] _ _ _ _ [.int x20, .int x16]
        have hbx20 := hb8 (fr + k)
        refine g_iadd C dX4_number_23 (by omega) (fun x23 e23 => ?_)
        refine g_bipush C dX4_number_24 (by decide) (fun x24 e24 => ?_)
        refine g_isub C dX4_number_26 (by omega) (fun x26 e26 => ?_)
        refine g_istore_n C dX4_number_27 (by rw [hN]; decide) (lv' := [(3, .int x26), (0, .ref m), (1, .int x), (2, .int y), (4, .int n4)]) rfl ?_
        refine g_iinc C dX4_number_28 4 rfl (by rw [hN]; decide) (by decide) (by omega) (fun x28 e28 => ?_)
        refine g_lvE (lv' := [(4, .int x28), (3, .int x26), (0, .ref m), (1, .int x), (2, .int y)]) rfl ?_
        refine g_goto C 5 dX4_number_31 (by decide) ?_
        refine g_lv [2, 3, 4, 1, 0] (lv' := [(0, .ref m), (1, .int x), (2, .int y), (3, .int x26), (4, .int x28)]) rfl ?_
        exact ih5 (x28) (x26) (k + 1) (by omega) (by omega) (by omega) (by rw [show numI (lk f P) fr (k + 1) = numI (lk f P) fr k * 10 + (lk f P (fr + k) : Int) - 48 from rfl]; omega)
  refine g_lv [2, 3, 4, 1, 0] (lv' := [(0, .ref m), (1, .int x), (2, .int y), (3, .int x0), (4, .int x)]) rfl ?_
  exact loop5 _ (x) (x0) (0) (Nat.lt_succ_self _) (by omega) (by omega) (by show _ = (0 : Int); omega)
set_option maxHeartbeats 1000000 in
set_option maxRecDepth 10000 in
theorem c_X4_digits (l : Launch) (E : GE) (m ib : Nat) (f : Nat → Int32) (sz pl wr : Int32) (u0 u4 u5 u6 u7 u8 u9 u10 u11 u12 u13 u14 : Value) (S P : Nat) (x y : Int32) (fr dg : Nat) (hS : sz.toInt = (S : Int)) (hP : pl.toInt = (P : Int)) (hPS : P ≤ S) (hSm : S ≤ 1500) (hx : x.toInt = (fr : Int)) (hy : y.toInt = (dg : Int)) (hl : fr + dg ≤ S - P) : Ctr l E yX4_digits cX4_digits 4 (some .boolean) 1 (0) (0) [.ref m, .int x, .int y] [(m, .inr (6, [u0, .ref ib, .int sz, .int pl, u4, u5, u6, u7, u8, u9, u10, u11, u12, u13, u14, .int wr])), (ib, aB E (1500) (f))] (fun v w => ∃ (r wr2 : Int32), v = some (.int r) ∧ ((r.toInt = 1 ∧ nD (lk f P) fr dg = -1 ∧ wr2 = wr) ∨ (r.toInt = 0 ∧ nD (lk f P) fr dg ≠ -1 ∧ wr2.toInt = nD (lk f P) fr dg)) ∧ w = [(m, .inr (6, [u0, .ref ib, .int sz, .int pl, u4, u5, u6, u7, u8, u9, u10, u11, u12, u13, u14, .int wr2])), (ib, aB E (1500) (f))]) := by
  refine Ctr.intro (by decide) (Nat.le_of_ble_eq_true rfl) (fun g hgl hN C r F hi => ?_)
  subst hgl
  have hb8 := lk_lt f P
  change G E g [(m, .inr (6, [u0, .ref ib, .int sz, .int pl, u4, u5, u6, u7, u8, u9, u10, u11, u12, u13, u14, .int wr])), (ib, aB E (1500) (f))] 0 0 0 [(0, .ref m), (1, .int x), (2, .int y)] []
  refine g_iload_n C dX4_digits_0 1 rfl ?_
  refine g_istore_n C dX4_digits_1 (by rw [hN]; decide) (lv' := [(3, .int x), (0, .ref m), (1, .int x), (2, .int y)]) rfl ?_
  have loop2 : ∀ (nn : Nat) (n3 : Int32) (k : Nat) (hm : dg - k < nn) (hk : k ≤ dg) (hp : n3.toInt = ((fr + k : Nat) : Int)) (hn : nD (lk f P) fr dg = nD (lk f P) (fr + k) (dg - k)), G E g [(m, .inr (6, [u0, .ref ib, .int sz, .int pl, u4, u5, u6, u7, u8, u9, u10, u11, u12, u13, u14, .int wr])), (ib, aB E (1500) (f))] 0 0 2 [(0, .ref m), (1, .int x), (2, .int y), (3, .int n3)] [] := by
    intro nn
    induction nn with
    | zero => intro n3 k hm hk hp hn; omega
    | succ nn ih2 =>
      intro n3 k hm hk hp hn
      refine g_iload_n C dX4_digits_2 3 rfl ?_
      refine g_iload_n C dX4_digits_3 1 rfl ?_
      refine g_iload_n C dX4_digits_4 2 rfl ?_
      refine g_iadd C dX4_digits_5 (by omega) (fun x5 e5 => ?_)
      refine g_icmp_ge C 41 dX4_digits_6 (by decide) (fun c6 => ?_) (fun c6 => ?_)
      · refine g_iconst C dX4_digits_41 (by decide) (fun x41 e41 => ?_)
        exact g_iret C F dX4_digits_42 rfl (nz_b x41 (by omega)) (Nat.le_refl _) (Nat.le_refl _) (by have h9 := nD_zero (b := lk f P) (fr := fr + k) (n := dg - k) (by omega); exact ⟨_, _, rfl, Or.inl ⟨by omega, by omega, rfl⟩, rfl⟩)
      · refine g_aload_n C dX4_digits_9 0 rfl ?_
        refine g_iload_n C dX4_digits_10 3 rfl ?_
        refine g_callV C r mv_X4_50 dX4_digits_11 (c_X4_look g.l E m ib f sz pl wr u0 u4 u5 u6 u7 u8 u9 u10 u11 u12 u13 u14 S P n3 (fr + k) hS hP hPS hSm (by omega) (by omega)) (wr := []) (As := [.int n3]) (rest := []) (Spl.at [] [0, 1] rfl rfl rfl) 0 rfl rfl rfl rfl (Nat.le_of_ble_eq_true rfl) (by decide) (Nat.le_refl _) (Nat.le_refl _) (fun v w h => ?_)
        obtain ⟨x11, rfl, e11, rfl⟩ := h
        change G E g [(m, .inr (6, [u0, .ref ib, .int sz, .int pl, u4, u5, u6, u7, u8, u9, u10, u11, u12, u13, u14, .int wr])), (ib, aB E (1500) (f))] _ _ _ _ [.int x11]
        have hbx11 := hb8 (fr + k)
        refine g_bipush C dX4_digits_14 (by decide) (fun x14 e14 => ?_)
        refine g_icmp_lt C 29 dX4_digits_16 (by decide) (fun c16 => ?_) (fun c16 => ?_)
        · refine g_aload_n C dX4_digits_29 0 rfl ?_
          refine g_iload_n C dX4_digits_30 3 rfl ?_
          refine g_callV C r mv_X4_54 dX4_digits_31 (c_X4_bad g.l E m ib sz pl wr u0 u4 u5 u6 u7 u8 u9 u10 u11 u12 u13 u14 n3) (wr := [(ib, aB E (1500) (f))]) (As := [.int n3]) (rest := []) (Spl.at [1] [0] rfl rfl rfl) 0 rfl rfl rfl rfl (Nat.le_of_ble_eq_true rfl) (by decide) (Nat.le_refl _) (Nat.le_refl _) (fun v w h => ?_)
          obtain ⟨x31, rfl, e31, rfl⟩ := h
          change G E g [(ib, aB E (1500) (f)), (m, .inr (6, [u0, .ref ib, .int sz, .int pl, u4, u5, u6, u7, u8, u9, u10, u11, u12, u13, u14, .int n3]))] _ _ _ _ [.int x31]
          refine g_perm [1, 0] rfl (ws' := [(m, .inr (6, [u0, .ref ib, .int sz, .int pl, u4, u5, u6, u7, u8, u9, u10, u11, u12, u13, u14, .int n3])), (ib, aB E (1500) (f))]) rfl ?_
          exact g_iret C F dX4_digits_34 rfl (nz_b x31 (by omega)) (Nat.le_refl _) (Nat.le_refl _) (by have h9 := nD_hit (b := lk f P) (fr := fr + k) (n := dg - k) (by omega) (by omega); exact ⟨_, _, rfl, Or.inr ⟨by omega, by omega, by omega⟩, rfl⟩)
        · refine g_aload_n C dX4_digits_19 0 rfl ?_
          refine g_iload_n C dX4_digits_20 3 rfl ?_
          refine g_callV C r mv_X4_50 dX4_digits_21 (c_X4_look g.l E m ib f sz pl wr u0 u4 u5 u6 u7 u8 u9 u10 u11 u12 u13 u14 S P n3 (fr + k) hS hP hPS hSm (by omega) (by omega)) (wr := []) (As := [.int n3]) (rest := []) (Spl.at [] [0, 1] rfl rfl rfl) 0 rfl rfl rfl rfl (Nat.le_of_ble_eq_true rfl) (by decide) (Nat.le_refl _) (Nat.le_refl _) (fun v w h => ?_)
          obtain ⟨x21, rfl, e21, rfl⟩ := h
          change G E g [(m, .inr (6, [u0, .ref ib, .int sz, .int pl, u4, u5, u6, u7, u8, u9, u10, u11, u12, u13, u14, .int wr])), (ib, aB E (1500) (f))] _ _ _ _ [.int x21]
          have hbx21 := hb8 (fr + k)
          refine g_bipush C dX4_digits_24 (by decide) (fun x24 e24 => ?_)
          refine g_icmp_le C 35 dX4_digits_26 (by decide) (fun c26 => ?_) (fun c26 => ?_)
          · refine g_iinc C dX4_digits_35 3 rfl (by rw [hN]; decide) (by decide) (by omega) (fun x35 e35 => ?_)
            refine g_lvE (lv' := [(3, .int x35), (0, .ref m), (1, .int x), (2, .int y)]) rfl ?_
            refine g_goto C 2 dX4_digits_38 (by decide) ?_
            refine g_lv [1, 2, 3, 0] (lv' := [(0, .ref m), (1, .int x), (2, .int y), (3, .int x35)]) rfl ?_
            exact ih2 (x35) (k + 1) (by omega) (by omega) (by omega) (by rw [hn, nD_miss (by omega) (by omega), show dg - k - 1 = dg - (k + 1) by omega]; rfl)
          · refine g_aload_n C dX4_digits_29 0 rfl ?_
            refine g_iload_n C dX4_digits_30 3 rfl ?_
            refine g_callV C r mv_X4_54 dX4_digits_31 (c_X4_bad g.l E m ib sz pl wr u0 u4 u5 u6 u7 u8 u9 u10 u11 u12 u13 u14 n3) (wr := [(ib, aB E (1500) (f))]) (As := [.int n3]) (rest := []) (Spl.at [1] [0] rfl rfl rfl) 0 rfl rfl rfl rfl (Nat.le_of_ble_eq_true rfl) (by decide) (Nat.le_refl _) (Nat.le_refl _) (fun v w h => ?_)
            obtain ⟨x31, rfl, e31, rfl⟩ := h
            change G E g [(ib, aB E (1500) (f)), (m, .inr (6, [u0, .ref ib, .int sz, .int pl, u4, u5, u6, u7, u8, u9, u10, u11, u12, u13, u14, .int n3]))] _ _ _ _ [.int x31]
            refine g_perm [1, 0] rfl (ws' := [(m, .inr (6, [u0, .ref ib, .int sz, .int pl, u4, u5, u6, u7, u8, u9, u10, u11, u12, u13, u14, .int n3])), (ib, aB E (1500) (f))]) rfl ?_
            exact g_iret C F dX4_digits_34 rfl (nz_b x31 (by omega)) (Nat.le_refl _) (Nat.le_refl _) (by have h9 := nD_hit (b := lk f P) (fr := fr + k) (n := dg - k) (by omega) (by omega); exact ⟨_, _, rfl, Or.inr ⟨by omega, by omega, by omega⟩, rfl⟩)
  refine g_lv [1, 2, 3, 0] (lv' := [(0, .ref m), (1, .int x), (2, .int y), (3, .int x)]) rfl ?_
  exact loop2 _ (x) (0) (Nat.lt_succ_self _) (by omega) (by omega) (by rfl)
set_option maxHeartbeats 1000000 in
set_option maxRecDepth 10000 in
theorem c_X4_must (l : Launch) (E : GE) (m ib : Nat) (f : Nat → Int32) (sz pl wr : Int32) (u0 u4 u5 u6 u7 u8 u9 u10 u11 u12 u13 u14 : Value) (S P : Nat) (x y : Int32) (k : Nat) (hS : sz.toInt = (S : Int)) (hP : pl.toInt = (P : Int)) (hPS : P ≤ S) (hSm : S ≤ 1500) (hx : x.toInt = (k : Int)) (hl : k < S - P) : Ctr l E yX4_must cX4_must 3 (some .boolean) 1 (0) (0) [.ref m, .int x, .int y] [(m, .inr (6, [u0, .ref ib, .int sz, .int pl, u4, u5, u6, u7, u8, u9, u10, u11, u12, u13, u14, .int wr])), (ib, aB E (1500) (f))] (fun v w => ∃ (r wr2 : Int32), v = some (.int r) ∧ ((r.toInt = 1 ∧ (lk f P k : Int) = y.toInt ∧ wr2 = wr) ∨ (r.toInt = 0 ∧ (lk f P k : Int) ≠ y.toInt ∧ wr2.toInt = (k : Int))) ∧ w = [(m, .inr (6, [u0, .ref ib, .int sz, .int pl, u4, u5, u6, u7, u8, u9, u10, u11, u12, u13, u14, .int wr2])), (ib, aB E (1500) (f))]) := by
  refine Ctr.intro (by decide) (Nat.le_of_ble_eq_true rfl) (fun g hgl hN C r F hi => ?_)
  subst hgl
  have hb8 := lk_lt f P
  change G E g [(m, .inr (6, [u0, .ref ib, .int sz, .int pl, u4, u5, u6, u7, u8, u9, u10, u11, u12, u13, u14, .int wr])), (ib, aB E (1500) (f))] 0 0 0 [(0, .ref m), (1, .int x), (2, .int y)] []
  refine g_aload_n C dX4_must_0 0 rfl ?_
  refine g_iload_n C dX4_must_1 1 rfl ?_
  refine g_callV C r mv_X4_50 dX4_must_2 (c_X4_look g.l E m ib f sz pl wr u0 u4 u5 u6 u7 u8 u9 u10 u11 u12 u13 u14 S P x (k) hS hP hPS hSm (by omega) (by omega)) (wr := []) (As := [.int x]) (rest := []) (Spl.at [] [0, 1] rfl rfl rfl) 0 rfl rfl rfl rfl (Nat.le_of_ble_eq_true rfl) (by decide) (Nat.le_refl _) (Nat.le_refl _) (fun v w h => ?_)
  obtain ⟨x2, rfl, e2, rfl⟩ := h
  change G E g [(m, .inr (6, [u0, .ref ib, .int sz, .int pl, u4, u5, u6, u7, u8, u9, u10, u11, u12, u13, u14, .int wr])), (ib, aB E (1500) (f))] _ _ _ _ [.int x2]
  have hbx2 := hb8 (k)
  refine g_iload_n C dX4_must_5 2 rfl ?_
  refine g_icmp_eq C 17 dX4_must_6 (by decide) (fun c6 => ?_) (fun c6 => ?_)
  · refine g_iconst C dX4_must_17 (by decide) (fun x17 e17 => ?_)
    refine g_goto C 22 dX4_must_18 (by decide) ?_
    exact g_iret C F dX4_must_22 rfl (nz_b x17 (by omega)) (Nat.le_refl _) (Nat.le_refl _) (by first | exact ⟨_, _, rfl, Or.inl ⟨by omega, by omega, rfl⟩, rfl⟩ | exact ⟨_, _, rfl, Or.inr ⟨by omega, by omega, by omega⟩, rfl⟩)
  · refine g_aload_n C dX4_must_9 0 rfl ?_
    refine g_iload_n C dX4_must_10 1 rfl ?_
    refine g_callV C r mv_X4_54 dX4_must_11 (c_X4_bad g.l E m ib sz pl wr u0 u4 u5 u6 u7 u8 u9 u10 u11 u12 u13 u14 x) (wr := [(ib, aB E (1500) (f))]) (As := [.int x]) (rest := []) (Spl.at [1] [0] rfl rfl rfl) 0 rfl rfl rfl rfl (Nat.le_of_ble_eq_true rfl) (by decide) (Nat.le_refl _) (Nat.le_refl _) (fun v w h => ?_)
    obtain ⟨x11, rfl, e11, rfl⟩ := h
    change G E g [(ib, aB E (1500) (f)), (m, .inr (6, [u0, .ref ib, .int sz, .int pl, u4, u5, u6, u7, u8, u9, u10, u11, u12, u13, u14, .int x]))] _ _ _ _ [.int x11]
    refine g_if_eq C 21 dX4_must_14 (by decide) (fun c14 => ?_) (fun c14 => ?_)
    · refine g_iconst C dX4_must_21 (by decide) (fun x21 e21 => ?_)
      refine g_perm [1, 0] rfl (ws' := [(m, .inr (6, [u0, .ref ib, .int sz, .int pl, u4, u5, u6, u7, u8, u9, u10, u11, u12, u13, u14, .int x])), (ib, aB E (1500) (f))]) rfl ?_
      exact g_iret C F dX4_must_22 rfl (nz_b x21 (by omega)) (Nat.le_refl _) (Nat.le_refl _) (by first | exact ⟨_, _, rfl, Or.inl ⟨by omega, by omega, rfl⟩, rfl⟩ | exact ⟨_, _, rfl, Or.inr ⟨by omega, by omega, by omega⟩, rfl⟩)
    · exfalso; omega
set_option maxHeartbeats 1000000 in
set_option maxRecDepth 10000 in
theorem c_X4_control (l : Launch) (E : GE) (m ib : Nat) (f : Nat → Int32) (sz pl wr : Int32) (u0 u4 u5 u6 u7 u8 u9 u10 u11 u12 u13 u14 : Value) (S P : Nat) (x y : Int32) (fr n la : Nat) (hS : sz.toInt = (S : Int)) (hP : pl.toInt = (P : Int)) (hPS : P ≤ S) (hSm : S ≤ 1500) (hx : x.toInt = (fr : Int)) (hy : y.toInt = (n : Int)) (hn1 : 1 ≤ n) (hla : la = fr + n - 1) (hl : la < S - P) : Ctr l E yX4_control cX4_control 4 (some .boolean) 2 (0) (0) [.ref m, .int x, .int y] [(m, .inr (6, [u0, .ref ib, .int sz, .int pl, u4, u5, u6, u7, u8, u9, u10, u11, u12, u13, u14, .int wr])), (ib, aB E (1500) (f))] (fun v w => ∃ (r wr2 : Int32), v = some (.int r) ∧ ((r.toInt = 1 ∧ wCtl (lk f P) fr la = -1 ∧ wr2 = wr) ∨ (r.toInt = 0 ∧ wCtl (lk f P) fr la ≠ -1 ∧ wr2.toInt = wCtl (lk f P) fr la)) ∧ w = [(m, .inr (6, [u0, .ref ib, .int sz, .int pl, u4, u5, u6, u7, u8, u9, u10, u11, u12, u13, u14, .int wr2])), (ib, aB E (1500) (f))]) := by
  refine Ctr.intro (by decide) (Nat.le_of_ble_eq_true rfl) (fun g hgl hN C r F hi => ?_)
  subst hgl
  have hb8 := lk_lt f P
  change G E g [(m, .inr (6, [u0, .ref ib, .int sz, .int pl, u4, u5, u6, u7, u8, u9, u10, u11, u12, u13, u14, .int wr])), (ib, aB E (1500) (f))] 0 0 0 [(0, .ref m), (1, .int x), (2, .int y)] []
  refine g_iload_n C dX4_control_0 1 rfl ?_
  refine g_istore_n C dX4_control_1 (by rw [hN]; decide) (lv' := [(3, .int x), (0, .ref m), (1, .int x), (2, .int y)]) rfl ?_
  have loop2 : ∀ (nn : Nat) (n3 : Int32) (k : Nat) (hm : la - k < nn) (hk : fr ≤ k ∧ k ≤ la) (hp : n3.toInt = (k : Int)) (hn : nM (lk f P) fr (la - fr) = nM (lk f P) k (la - k)), G E g [(m, .inr (6, [u0, .ref ib, .int sz, .int pl, u4, u5, u6, u7, u8, u9, u10, u11, u12, u13, u14, .int wr])), (ib, aB E (1500) (f))] 0 0 2 [(0, .ref m), (1, .int x), (2, .int y), (3, .int n3)] [] := by
    intro nn
    induction nn with
    | zero => intro n3 k hm hk hp hn; omega
    | succ nn ih2 =>
      intro n3 k hm hk hp hn
      refine g_iload_n C dX4_control_2 3 rfl ?_
      refine g_iload_n C dX4_control_3 1 rfl ?_
      refine g_iload_n C dX4_control_4 2 rfl ?_
      refine g_iadd C dX4_control_5 (by omega) (fun x5 e5 => ?_)
      refine g_iconst C dX4_control_6 (by decide) (fun x6 e6 => ?_)
      refine g_isub C dX4_control_7 (by omega) (fun x7 e7 => ?_)
      refine g_icmp_ge C 34 dX4_control_8 (by decide) (fun c8 => ?_) (fun c8 => ?_)
      · refine g_aload_n C dX4_control_34 0 rfl ?_
        refine g_iload_n C dX4_control_35 1 rfl ?_
        refine g_iload_n C dX4_control_36 2 rfl ?_
        refine g_iadd C dX4_control_37 (by omega) (fun x37 e37 => ?_)
        refine g_iconst C dX4_control_38 (by decide) (fun x38 e38 => ?_)
        refine g_isub C dX4_control_39 (by omega) (fun x39 e39 => ?_)
        refine g_bipush C dX4_control_40 (by decide) (fun x40 e40 => ?_)
        refine g_callV C r mv_X4_61 dX4_control_42 (c_X4_must g.l E m ib f sz pl wr u0 u4 u5 u6 u7 u8 u9 u10 u11 u12 u13 u14 S P x39 x40 (la) hS hP hPS hSm (by omega) (by omega)) (wr := []) (As := [.int x39, .int x40]) (rest := []) (Spl.at [] [0, 1] rfl rfl rfl) 0 rfl rfl rfl rfl (Nat.le_of_ble_eq_true rfl) (by decide) (Nat.le_refl _) (Nat.le_refl _) (fun v w h => ?_)
        obtain ⟨x42, w42, rfl, e42, rfl⟩ := h
        change G E g [(m, .inr (6, [u0, .ref ib, .int sz, .int pl, u4, u5, u6, u7, u8, u9, u10, u11, u12, u13, u14, .int w42])), (ib, aB E (1500) (f))] _ _ _ _ [.int x42]
        exact g_iret C F dX4_control_45 rfl (nz_b x42 (by omega)) (Nat.le_refl _) (Nat.le_refl _) (by have h9 := nM_zero (b := lk f P) (fr := k) (n := la - k) (by omega); have h8 := wCtl_2 (b := lk f P) (fr := fr) (la := la) (by omega); have h7 := wEnd_d (lk f P) la; rcases e42 with ⟨a1, a2, a3⟩ | ⟨a1, a2, a3⟩; exact ⟨_, _, rfl, Or.inl ⟨by omega, by omega, a3⟩, rfl⟩; exact ⟨_, _, rfl, Or.inr ⟨by omega, by omega, by omega⟩, rfl⟩)
      · refine g_aload_n C dX4_control_11 0 rfl ?_
        refine g_iload_n C dX4_control_12 3 rfl ?_
        refine g_callV C r mv_X4_50 dX4_control_13 (c_X4_look g.l E m ib f sz pl wr u0 u4 u5 u6 u7 u8 u9 u10 u11 u12 u13 u14 S P n3 (k) hS hP hPS hSm (by omega) (by omega)) (wr := []) (As := [.int n3]) (rest := []) (Spl.at [] [0, 1] rfl rfl rfl) 0 rfl rfl rfl rfl (Nat.le_of_ble_eq_true rfl) (by decide) (Nat.le_refl _) (Nat.le_refl _) (fun v w h => ?_)
        obtain ⟨x13, rfl, e13, rfl⟩ := h
        change G E g [(m, .inr (6, [u0, .ref ib, .int sz, .int pl, u4, u5, u6, u7, u8, u9, u10, u11, u12, u13, u14, .int wr])), (ib, aB E (1500) (f))] _ _ _ _ [.int x13]
        have hbx13 := hb8 (k)
        refine g_callS C r ms_X4_58 dX4_control_16 (c_X4_isMark g.l E x13) (wr := [(m, .inr (6, [u0, .ref ib, .int sz, .int pl, u4, u5, u6, u7, u8, u9, u10, u11, u12, u13, u14, .int wr])), (ib, aB E (1500) (f))]) (As := [.int x13]) (rest := []) (Spl.at [0, 1] [] rfl rfl rfl) rfl (Nat.le_of_ble_eq_true rfl) (by decide) (Nat.le_refl _) (Nat.le_refl _) (fun v w h => ?_)
        obtain ⟨x16, rfl, e16, rfl⟩ := h
        change G E g [(m, .inr (6, [u0, .ref ib, .int sz, .int pl, u4, u5, u6, u7, u8, u9, u10, u11, u12, u13, u14, .int wr])), (ib, aB E (1500) (f))] _ _ _ _ [.int x16]
        refine g_if_eq C 28 dX4_control_19 (by decide) (fun c19 => ?_) (fun c19 => ?_)
        · replace e16 := bl0 e16 c19
          refine g_iinc C dX4_control_28 3 rfl (by rw [hN]; decide) (by decide) (by omega) (fun x28 e28 => ?_)
          refine g_lvE (lv' := [(3, .int x28), (0, .ref m), (1, .int x), (2, .int y)]) rfl ?_
          refine g_goto C 2 dX4_control_31 (by decide) ?_
          refine g_lv [1, 2, 3, 0] (lv' := [(0, .ref m), (1, .int x), (2, .int y), (3, .int x28)]) rfl ?_
          exact ih2 (x28) (k + 1) (by omega) (by omega) (by omega) (by rw [hn, nM_miss (by omega) (by omega), show la - k - 1 = la - (k + 1) by omega])
        · replace e16 := bl1 e16 c19
          refine g_aload_n C dX4_control_22 0 rfl ?_
          refine g_iload_n C dX4_control_23 3 rfl ?_
          refine g_callV C r mv_X4_54 dX4_control_24 (c_X4_bad g.l E m ib sz pl wr u0 u4 u5 u6 u7 u8 u9 u10 u11 u12 u13 u14 n3) (wr := [(ib, aB E (1500) (f))]) (As := [.int n3]) (rest := []) (Spl.at [1] [0] rfl rfl rfl) 0 rfl rfl rfl rfl (Nat.le_of_ble_eq_true rfl) (by decide) (Nat.le_refl _) (Nat.le_refl _) (fun v w h => ?_)
          obtain ⟨x24, rfl, e24, rfl⟩ := h
          change G E g [(ib, aB E (1500) (f)), (m, .inr (6, [u0, .ref ib, .int sz, .int pl, u4, u5, u6, u7, u8, u9, u10, u11, u12, u13, u14, .int n3]))] _ _ _ _ [.int x24]
          refine g_perm [1, 0] rfl (ws' := [(m, .inr (6, [u0, .ref ib, .int sz, .int pl, u4, u5, u6, u7, u8, u9, u10, u11, u12, u13, u14, .int n3])), (ib, aB E (1500) (f))]) rfl ?_
          exact g_iret C F dX4_control_27 rfl (nz_b x24 (by omega)) (Nat.le_refl _) (Nat.le_refl _) (by have h9 := nM_hit (b := lk f P) (fr := k) (n := la - k) (by omega) (by omega); have h8 := wCtl_1 (b := lk f P) (fr := fr) (la := la) (by omega); exact ⟨_, _, rfl, Or.inr ⟨by omega, by omega, by omega⟩, rfl⟩)
  refine g_lv [1, 2, 3, 0] (lv' := [(0, .ref m), (1, .int x), (2, .int y), (3, .int x)]) rfl ?_
  exact loop2 _ (x) (fr) (Nat.lt_succ_self _) (by omega) (by omega) (by rfl)
end
section
set_option maxHeartbeats 3000000 in
set_option maxRecDepth 10000 in
theorem c_X4_data (l : Launch) (E : GE) (m ib : Nat) (f : Nat → Int32) (sz pl wr : Int32) (u0 u4 u5 u6 u7 u8 u9 u10 u11 u12 u13 u14 : Value) (S P : Nat) (x y : Int32) (fr n la : Nat) (hS : sz.toInt = (S : Int)) (hP : pl.toInt = (P : Int)) (hPS : P ≤ S) (hSm : S ≤ 1500) (hx : x.toInt = (fr : Int)) (hy : y.toInt = (n : Int)) (hn1 : 3 ≤ n) (hla : la = fr + n - 1) (hl : la < S - P) : Ctr l E yX4_data cX4_data 5 (some .boolean) 2 (0) (0) [.ref m, .int x, .int y] [(m, .inr (6, [u0, .ref ib, .int sz, .int pl, u4, u5, u6, u7, u8, u9, u10, u11, u12, u13, u14, .int wr])), (ib, aB E (1500) (f))] (fun v w => ∃ (r wr2 : Int32), v = some (.int r) ∧ ((r.toInt = 1 ∧ wOth (lk f P) fr la = -1 ∧ wr2 = wr) ∨ (r.toInt = 0 ∧ wOth (lk f P) fr la ≠ -1 ∧ wr2.toInt = wOth (lk f P) fr la)) ∧ w = [(m, .inr (6, [u0, .ref ib, .int sz, .int pl, u4, u5, u6, u7, u8, u9, u10, u11, u12, u13, u14, .int wr2])), (ib, aB E (1500) (f))]) := by
  refine Ctr.intro (by decide) (Nat.le_of_ble_eq_true rfl) (fun g hgl hN C r F hi => ?_)
  subst hgl
  have hb8 := lk_lt f P
  change G E g [(m, .inr (6, [u0, .ref ib, .int sz, .int pl, u4, u5, u6, u7, u8, u9, u10, u11, u12, u13, u14, .int wr])), (ib, aB E (1500) (f))] 0 0 0 [(0, .ref m), (1, .int x), (2, .int y)] []
  refine g_iload_n C dX4_data_0 1 rfl ?_
  refine g_iload_n C dX4_data_1 2 rfl ?_
  refine g_iadd C dX4_data_2 (by omega) (fun x2 e2 => ?_)
  refine g_iconst C dX4_data_3 (by decide) (fun x3 e3 => ?_)
  refine g_isub C dX4_data_4 (by omega) (fun x4 e4 => ?_)
  refine g_istore_n C dX4_data_5 (by rw [hN]; decide) (lv' := [(3, .int x4), (0, .ref m), (1, .int x), (2, .int y)]) rfl ?_
  have J30 : ∀ (_ : True) (hbad : nM (lk f P) fr 2 ≠ -1), G E g [(m, .inr (6, [u0, .ref ib, .int sz, .int pl, u4, u5, u6, u7, u8, u9, u10, u11, u12, u13, u14, .int wr])), (ib, aB E (1500) (f))] 0 0 30 [(0, .ref m), (1, .int x), (2, .int y), (3, .int x4)] [] := by
    intro _ hbad
    refine g_aload_n C dX4_data_30 0 rfl ?_
    refine g_aload_n C dX4_data_31 0 rfl ?_
    refine g_iload_n C dX4_data_32 1 rfl ?_
    refine g_callV C r mv_X4_50 dX4_data_33 (c_X4_look g.l E m ib f sz pl wr u0 u4 u5 u6 u7 u8 u9 u10 u11 u12 u13 u14 S P x (fr) hS hP hPS hSm (by omega) (by omega)) (wr := []) (As := [.int x]) (rest := [.ref m]) (Spl.at [] [0, 1] rfl rfl rfl) 0 rfl rfl rfl rfl (Nat.le_of_ble_eq_true rfl) (by decide) (Nat.le_refl _) (Nat.le_refl _) (fun v w h => ?_)
    obtain ⟨x33, rfl, e33, rfl⟩ := h
    change G E g [(m, .inr (6, [u0, .ref ib, .int sz, .int pl, u4, u5, u6, u7, u8, u9, u10, u11, u12, u13, u14, .int wr])), (ib, aB E (1500) (f))] _ _ _ _ [.int x33, .ref m]
    have hbx33 := hb8 (fr)
    refine g_callS C r ms_X4_58 dX4_data_36 (c_X4_isMark g.l E x33) (wr := [(m, .inr (6, [u0, .ref ib, .int sz, .int pl, u4, u5, u6, u7, u8, u9, u10, u11, u12, u13, u14, .int wr])), (ib, aB E (1500) (f))]) (As := [.int x33]) (rest := [.ref m]) (Spl.at [0, 1] [] rfl rfl rfl) rfl (Nat.le_of_ble_eq_true rfl) (by decide) (Nat.le_refl _) (Nat.le_refl _) (fun v w h => ?_)
    obtain ⟨x36, rfl, e36, rfl⟩ := h
    change G E g [(m, .inr (6, [u0, .ref ib, .int sz, .int pl, u4, u5, u6, u7, u8, u9, u10, u11, u12, u13, u14, .int wr])), (ib, aB E (1500) (f))] _ _ _ _ [.int x36, .ref m]
    refine g_if_eq C 46 dX4_data_39 (by decide) (fun c39 => ?_) (fun c39 => ?_)
    · replace e36 := bl0 e36 c39
      refine g_iload_n C dX4_data_46 1 rfl ?_
      refine g_iconst C dX4_data_47 (by decide) (fun x47 e47 => ?_)
      refine g_iadd C dX4_data_48 (by omega) (fun x48 e48 => ?_)
      refine g_callV C r mv_X4_54 dX4_data_49 (c_X4_bad g.l E m ib sz pl wr u0 u4 u5 u6 u7 u8 u9 u10 u11 u12 u13 u14 x48) (wr := [(ib, aB E (1500) (f))]) (As := [.int x48]) (rest := []) (Spl.at [1] [0] rfl rfl rfl) 0 rfl rfl rfl rfl (Nat.le_of_ble_eq_true rfl) (by decide) (Nat.le_refl _) (Nat.le_refl _) (fun v w h => ?_)
      obtain ⟨x49, rfl, e49, rfl⟩ := h
      change G E g [(ib, aB E (1500) (f)), (m, .inr (6, [u0, .ref ib, .int sz, .int pl, u4, u5, u6, u7, u8, u9, u10, u11, u12, u13, u14, .int x48]))] _ _ _ _ [.int x49]
      refine g_perm [1, 0] rfl (ws' := [(m, .inr (6, [u0, .ref ib, .int sz, .int pl, u4, u5, u6, u7, u8, u9, u10, u11, u12, u13, u14, .int x48])), (ib, aB E (1500) (f))]) rfl ?_
      exact g_iret C F dX4_data_52 rfl (nz_b x49 (by omega)) (Nat.le_refl _) (Nat.le_refl _) (by have hnm := nM2 (lk f P) fr; have h9 := wOth_1 (b := lk f P) (fr := fr) (la := la) (by omega); exact ⟨_, _, rfl, Or.inr ⟨by omega, by omega, by omega⟩, rfl⟩)
    · replace e36 := bl1 e36 c39
      refine g_iload_n C dX4_data_42 1 rfl ?_
      refine g_goto C 49 dX4_data_43 (by decide) ?_
      refine g_callV C r mv_X4_54 dX4_data_49 (c_X4_bad g.l E m ib sz pl wr u0 u4 u5 u6 u7 u8 u9 u10 u11 u12 u13 u14 x) (wr := [(ib, aB E (1500) (f))]) (As := [.int x]) (rest := []) (Spl.at [1] [0] rfl rfl rfl) 0 rfl rfl rfl rfl (Nat.le_of_ble_eq_true rfl) (by decide) (Nat.le_refl _) (Nat.le_refl _) (fun v w h => ?_)
      obtain ⟨x49, rfl, e49, rfl⟩ := h
      change G E g [(ib, aB E (1500) (f)), (m, .inr (6, [u0, .ref ib, .int sz, .int pl, u4, u5, u6, u7, u8, u9, u10, u11, u12, u13, u14, .int x]))] _ _ _ _ [.int x49]
      refine g_perm [1, 0] rfl (ws' := [(m, .inr (6, [u0, .ref ib, .int sz, .int pl, u4, u5, u6, u7, u8, u9, u10, u11, u12, u13, u14, .int x])), (ib, aB E (1500) (f))]) rfl ?_
      exact g_iret C F dX4_data_52 rfl (nz_b x49 (by omega)) (Nat.le_refl _) (Nat.le_refl _) (by have hnm := nM2 (lk f P) fr; have h9 := wOth_1 (b := lk f P) (fr := fr) (la := la) (by omega); exact ⟨_, _, rfl, Or.inr ⟨by omega, by omega, by omega⟩, rfl⟩)
  refine g_aload_n C dX4_data_6 1 rfl ?_
  refine g_iload_n C dX4_data_7 2 rfl ?_
  refine g_callV C r mv_X4_50 dX4_data_8 (c_X4_look g.l E m ib f sz pl wr u0 u4 u5 u6 u7 u8 u9 u10 u11 u12 u13 u14 S P x (fr) hS hP hPS hSm (by omega) (by omega)) (wr := []) (As := [.int x]) (rest := []) (Spl.at [] [0, 1] rfl rfl rfl) 0 rfl rfl rfl rfl (Nat.le_of_ble_eq_true rfl) (by decide) (Nat.le_refl _) (Nat.le_refl _) (fun v w h => ?_)
  obtain ⟨x8, rfl, e8, rfl⟩ := h
  change G E g [(m, .inr (6, [u0, .ref ib, .int sz, .int pl, u4, u5, u6, u7, u8, u9, u10, u11, u12, u13, u14, .int wr])), (ib, aB E (1500) (f))] _ _ _ _ [.int x8]
  have hbx8 := hb8 (fr)
  refine g_callS C r ms_X4_58 dX4_data_11 (c_X4_isMark g.l E x8) (wr := [(m, .inr (6, [u0, .ref ib, .int sz, .int pl, u4, u5, u6, u7, u8, u9, u10, u11, u12, u13, u14, .int wr])), (ib, aB E (1500) (f))]) (As := [.int x8]) (rest := []) (Spl.at [0, 1] [] rfl rfl rfl) rfl (Nat.le_of_ble_eq_true rfl) (by decide) (Nat.le_refl _) (Nat.le_refl _) (fun v w h => ?_)
  obtain ⟨x11, rfl, e11, rfl⟩ := h
  change G E g [(m, .inr (6, [u0, .ref ib, .int sz, .int pl, u4, u5, u6, u7, u8, u9, u10, u11, u12, u13, u14, .int wr])), (ib, aB E (1500) (f))] _ _ _ _ [.int x11]
  refine g_if_ne C 30 dX4_data_14 (by decide) (fun c14 => ?_) (fun c14 => ?_)
  · replace e11 := bl1 e11 c14
    refine g_lv [1, 2, 3, 0] (lv' := [(0, .ref m), (1, .int x), (2, .int y), (3, .int x4)]) rfl ?_
    exact J30 trivial (by have hnm := nM2 (lk f P) fr; omega)
  · replace e11 := bl0 e11 c14
    refine g_aload_n C dX4_data_17 1 rfl ?_
    refine g_iload_n C dX4_data_18 2 rfl ?_
    refine g_iconst C dX4_data_19 (by decide) (fun x19 e19 => ?_)
    refine g_iadd C dX4_data_20 (by omega) (fun x20 e20 => ?_)
    refine g_callV C r mv_X4_50 dX4_data_21 (c_X4_look g.l E m ib f sz pl wr u0 u4 u5 u6 u7 u8 u9 u10 u11 u12 u13 u14 S P x20 (fr + 1) hS hP hPS hSm (by omega) (by omega)) (wr := []) (As := [.int x20]) (rest := []) (Spl.at [] [0, 1] rfl rfl rfl) 0 rfl rfl rfl rfl (Nat.le_of_ble_eq_true rfl) (by decide) (Nat.le_refl _) (Nat.le_refl _) (fun v w h => ?_)
    obtain ⟨x21, rfl, e21, rfl⟩ := h
    change G E g [(m, .inr (6, [u0, .ref ib, .int sz, .int pl, u4, u5, u6, u7, u8, u9, u10, u11, u12, u13, u14, .int wr])), (ib, aB E (1500) (f))] _ _ _ _ [.int x21]
    have hbx21 := hb8 (fr + 1)
    refine g_callS C r ms_X4_58 dX4_data_24 (c_X4_isMark g.l E x21) (wr := [(m, .inr (6, [u0, .ref ib, .int sz, .int pl, u4, u5, u6, u7, u8, u9, u10, u11, u12, u13, u14, .int wr])), (ib, aB E (1500) (f))]) (As := [.int x21]) (rest := []) (Spl.at [0, 1] [] rfl rfl rfl) rfl (Nat.le_of_ble_eq_true rfl) (by decide) (Nat.le_refl _) (Nat.le_refl _) (fun v w h => ?_)
    obtain ⟨x24, rfl, e24, rfl⟩ := h
    change G E g [(m, .inr (6, [u0, .ref ib, .int sz, .int pl, u4, u5, u6, u7, u8, u9, u10, u11, u12, u13, u14, .int wr])), (ib, aB E (1500) (f))] _ _ _ _ [.int x24]
    refine g_if_eq C 53 dX4_data_27 (by decide) (fun c27 => ?_) (fun c27 => ?_)
    · replace e24 := bl0 e24 c27
      have hfl : fr + 2 ≤ la := by omega
      have hx4 : x4.toInt = (la : Int) := by omega
      have hfr1 : lk f P (fr + 1) ≠ 31 := by omega
      have hnm1 : nM (lk f P) fr 2 = -1 := by have hnm := nM2 (lk f P) fr; omega
      clear e2 e3 e4 e8 hbx8 e11 c14 e21 hbx21 e24 c27 e19 e20 hy hn1 hla J30
      refine g_iload_n C dX4_data_53 2 rfl ?_
      refine g_iconst C dX4_data_54 (by decide) (fun x54 e54 => ?_)
      refine g_iadd C dX4_data_55 (by omega) (fun x55 e55 => ?_)
      refine g_istore C dX4_data_56 (by rw [hN]; decide) (lv' := [(4, .int x55), (3, .int x4), (0, .ref m), (1, .int x), (2, .int y)]) rfl ?_
      have loop58 : ∀ (nn : Nat) (n4 : Int32) (k : Nat) (hm : la - k < nn) (hk : fr + 2 ≤ k ∧ k ≤ la) (hp : n4.toInt = (k : Int)) (hk1 : lk f P (k - 1) ≠ 31) (hk0 : k = fr + 2 ∨ k = la ∨ lk f P k = 31) (hq : k ≠ fr + 2 → ¬ (fr + 2 < la ∧ lk f P (fr + 2) ≠ 31)) (hn : fI (badO (lk f P) la) (fr + 2) (la - (fr + 2)) = fI (badO (lk f P) la) k (la - k)), G E g [(m, .inr (6, [u0, .ref ib, .int sz, .int pl, u4, u5, u6, u7, u8, u9, u10, u11, u12, u13, u14, .int wr])), (ib, aB E (1500) (f))] 0 0 58 [(0, .ref m), (1, .int x), (2, .int y), (3, .int x4), (4, .int n4)] [] := by
        intro nn
        induction nn with
        | zero => intro n4 k hm hk hp hk1 hk0 hq hn; omega
        | succ nn ih58 =>
          intro n4 k hm hk hp hk1 hk0 hq hn
          have hkf : k = fr + 2 → lk f P k = lk f P (fr + 2) := fun h => by rw [h]
          refine g_iload C dX4_data_58 4 rfl ?_
          refine g_iload_n C dX4_data_60 3 rfl ?_
          refine g_icmp_ge C 158 dX4_data_61 (by decide) (fun c61 => ?_) (fun c61 => ?_)
          · refine g_aload_n C dX4_data_158 0 rfl ?_
            refine g_iload_n C dX4_data_159 3 rfl ?_
            refine g_bipush C dX4_data_160 (by decide) (fun x160 e160 => ?_)
            refine g_callV C r mv_X4_61 dX4_data_162 (c_X4_must g.l E m ib f sz pl wr u0 u4 u5 u6 u7 u8 u9 u10 u11 u12 u13 u14 S P x4 x160 (la) hS hP hPS hSm (by omega) (by omega)) (wr := []) (As := [.int x4, .int x160]) (rest := []) (Spl.at [] [0, 1] rfl rfl rfl) 0 rfl rfl rfl rfl (Nat.le_of_ble_eq_true rfl) (by decide) (Nat.le_refl _) (Nat.le_refl _) (fun v w h => ?_)
            obtain ⟨x162, w162, rfl, e162, rfl⟩ := h
            change G E g [(m, .inr (6, [u0, .ref ib, .int sz, .int pl, u4, u5, u6, u7, u8, u9, u10, u11, u12, u13, u14, .int w162])), (ib, aB E (1500) (f))] _ _ _ _ [.int x162]
            exact g_iret C F dX4_data_165 rfl (nz_b x162 (by omega)) (Nat.le_refl _) (Nat.le_refl _) (by have h8 : fI (badO (lk f P) la) k (la - k) = -1 := fI_zero (by omega); have h9 := wOth_4 (b := lk f P) (fr := fr) (la := la) (by omega) (by omega) (hn.trans h8); have h7 := wEnd_d (lk f P) la; rcases e162 with ⟨a1, a2, a3⟩ | ⟨a1, a2, a3⟩; exact ⟨_, _, rfl, Or.inl ⟨by omega, by omega, a3⟩, rfl⟩; exact ⟨_, _, rfl, Or.inr ⟨by omega, by omega, by omega⟩, rfl⟩)
          · refine g_aload_n C dX4_data_64 0 rfl ?_
            refine g_iload C dX4_data_65 4 rfl ?_
            refine g_callV C r mv_X4_50 dX4_data_67 (c_X4_look g.l E m ib f sz pl wr u0 u4 u5 u6 u7 u8 u9 u10 u11 u12 u13 u14 S P n4 (k) hS hP hPS hSm (by omega) (by omega)) (wr := []) (As := [.int n4]) (rest := []) (Spl.at [] [0, 1] rfl rfl rfl) 0 rfl rfl rfl rfl (Nat.le_of_ble_eq_true rfl) (by decide) (Nat.le_refl _) (Nat.le_refl _) (fun v w h => ?_)
            obtain ⟨x67, rfl, e67, rfl⟩ := h
            change G E g [(m, .inr (6, [u0, .ref ib, .int sz, .int pl, u4, u5, u6, u7, u8, u9, u10, u11, u12, u13, u14, .int wr])), (ib, aB E (1500) (f))] _ _ _ _ [.int x67]
            have hbx67 := hb8 (k)
            refine g_bipush C dX4_data_70 (by decide) (fun x70 e70 => ?_)
            refine g_icmp_ne C 83 dX4_data_72 (by decide) (fun c72 => ?_) (fun c72 => ?_)
            · refine g_aload_n C dX4_data_83 0 rfl ?_
              refine g_iload C dX4_data_84 4 rfl ?_
              refine g_callV C r mv_X4_54 dX4_data_86 (c_X4_bad g.l E m ib sz pl wr u0 u4 u5 u6 u7 u8 u9 u10 u11 u12 u13 u14 n4) (wr := [(ib, aB E (1500) (f))]) (As := [.int n4]) (rest := []) (Spl.at [1] [0] rfl rfl rfl) 0 rfl rfl rfl rfl (Nat.le_of_ble_eq_true rfl) (by decide) (Nat.le_refl _) (Nat.le_refl _) (fun v w h => ?_)
              obtain ⟨x86, rfl, e86, rfl⟩ := h
              change G E g [(ib, aB E (1500) (f)), (m, .inr (6, [u0, .ref ib, .int sz, .int pl, u4, u5, u6, u7, u8, u9, u10, u11, u12, u13, u14, .int n4]))] _ _ _ _ [.int x86]
              refine g_perm [1, 0] rfl (ws' := [(m, .inr (6, [u0, .ref ib, .int sz, .int pl, u4, u5, u6, u7, u8, u9, u10, u11, u12, u13, u14, .int n4])), (ib, aB E (1500) (f))]) rfl ?_
              exact g_iret C F dX4_data_89 rfl (nz_b x86 (by omega)) (Nat.le_refl _) (Nat.le_refl _) (by have hkk : k = fr + 2 := (by omega); have h9 := wOth_2 (b := lk f P) (fr := fr) (la := la) hnm1 (by have := hkf hkk; omega); exact ⟨_, _, rfl, Or.inr ⟨by omega, by omega, by omega⟩, rfl⟩)
            · refine g_iload C dX4_data_75 4 rfl ?_
              refine g_iconst C dX4_data_77 (by decide) (fun x77 e77 => ?_)
              refine g_iadd C dX4_data_78 (by omega) (fun x78 e78 => ?_)
              refine g_iload_n C dX4_data_79 3 rfl ?_
              refine g_icmp_ne C 90 dX4_data_80 (by decide) (fun c80 => ?_) (fun c80 => ?_)
              · refine g_aload_n C dX4_data_90 0 rfl ?_
                refine g_iload C dX4_data_91 4 rfl ?_
                refine g_iconst C dX4_data_93 (by decide) (fun x93 e93 => ?_)
                refine g_iadd C dX4_data_94 (by omega) (fun x94 e94 => ?_)
                refine g_callV C r mv_X4_50 dX4_data_95 (c_X4_look g.l E m ib f sz pl wr u0 u4 u5 u6 u7 u8 u9 u10 u11 u12 u13 u14 S P x94 (k + 1) hS hP hPS hSm (by omega) (by omega)) (wr := []) (As := [.int x94]) (rest := []) (Spl.at [] [0, 1] rfl rfl rfl) 0 rfl rfl rfl rfl (Nat.le_of_ble_eq_true rfl) (by decide) (Nat.le_refl _) (Nat.le_refl _) (fun v w h => ?_)
                obtain ⟨x95, rfl, e95, rfl⟩ := h
                change G E g [(m, .inr (6, [u0, .ref ib, .int sz, .int pl, u4, u5, u6, u7, u8, u9, u10, u11, u12, u13, u14, .int wr])), (ib, aB E (1500) (f))] _ _ _ _ [.int x95]
                have hbx95 := hb8 (k + 1)
                refine g_callS C r ms_X4_58 dX4_data_98 (c_X4_isMark g.l E x95) (wr := [(m, .inr (6, [u0, .ref ib, .int sz, .int pl, u4, u5, u6, u7, u8, u9, u10, u11, u12, u13, u14, .int wr])), (ib, aB E (1500) (f))]) (As := [.int x95]) (rest := []) (Spl.at [0, 1] [] rfl rfl rfl) rfl (Nat.le_of_ble_eq_true rfl) (by decide) (Nat.le_refl _) (Nat.le_refl _) (fun v w h => ?_)
                obtain ⟨x98, rfl, e98, rfl⟩ := h
                change G E g [(m, .inr (6, [u0, .ref ib, .int sz, .int pl, u4, u5, u6, u7, u8, u9, u10, u11, u12, u13, u14, .int wr])), (ib, aB E (1500) (f))] _ _ _ _ [.int x98]
                refine g_if_eq C 113 dX4_data_101 (by decide) (fun c101 => ?_) (fun c101 => ?_)
                · replace e98 := bl0 e98 c101
                  refine g_iinc C dX4_data_113 4 rfl (by rw [hN]; decide) (by decide) (by omega) (fun x113 e113 => ?_)
                  refine g_lvE (lv' := [(4, .int x113), (0, .ref m), (1, .int x), (2, .int y), (3, .int x4)]) rfl ?_
                  have loop116 : ∀ (nn : Nat) (m4 : Int32) (j : Nat) (hm : la - j < nn) (hj : k + 2 ≤ j ∧ j ≤ la ∧ fr + 2 ≤ k) (hpj : m4.toInt = (j : Int)) (hj1 : lk f P (j - 1) ≠ 31) (hqj : ¬ (fr + 2 < la ∧ lk f P (fr + 2) ≠ 31)) (hnj : fI (badO (lk f P) la) (fr + 2) (la - (fr + 2)) = fI (badO (lk f P) la) j (la - j)), G E g [(m, .inr (6, [u0, .ref ib, .int sz, .int pl, u4, u5, u6, u7, u8, u9, u10, u11, u12, u13, u14, .int wr])), (ib, aB E (1500) (f))] 0 0 116 [(0, .ref m), (1, .int x), (2, .int y), (3, .int x4), (4, .int m4)] [] := by
                    intro nn
                    induction nn with
                    | zero => intro m4 j hm hj hpj hj1 hqj hnj; omega
                    | succ nn ih116 =>
                      intro m4 j hm hj hpj hj1 hqj hnj
                      clear hq hkf hk0 hk1 hn hp hk
                      refine g_iload C dX4_data_116 4 rfl ?_
                      refine g_iload_n C dX4_data_118 3 rfl ?_
                      refine g_icmp_ge C 58 dX4_data_119 (by decide) (fun c119 => ?_) (fun c119 => ?_)
                      · refine g_lv [0, 1, 2, 3, 4] (lv' := [(0, .ref m), (1, .int x), (2, .int y), (3, .int x4), (4, .int m4)]) rfl ?_
                        exact ih58 (m4) (j) (by omega) (by omega) (by omega) (by exact hj1) (by exact Or.inr (Or.inl (by omega))) (by exact fun _ => hqj) (by exact hnj)
                      · refine g_aload_n C dX4_data_122 0 rfl ?_
                        refine g_iload C dX4_data_123 4 rfl ?_
                        refine g_callV C r mv_X4_50 dX4_data_125 (c_X4_look g.l E m ib f sz pl wr u0 u4 u5 u6 u7 u8 u9 u10 u11 u12 u13 u14 S P m4 (j) hS hP hPS hSm (by omega) (by omega)) (wr := []) (As := [.int m4]) (rest := []) (Spl.at [] [0, 1] rfl rfl rfl) 0 rfl rfl rfl rfl (Nat.le_of_ble_eq_true rfl) (by decide) (Nat.le_refl _) (Nat.le_refl _) (fun v w h => ?_)
                        obtain ⟨x125, rfl, e125, rfl⟩ := h
                        change G E g [(m, .inr (6, [u0, .ref ib, .int sz, .int pl, u4, u5, u6, u7, u8, u9, u10, u11, u12, u13, u14, .int wr])), (ib, aB E (1500) (f))] _ _ _ _ [.int x125]
                        have hbx125 := hb8 (j)
                        refine g_bipush C dX4_data_128 (by decide) (fun x128 e128 => ?_)
                        refine g_icmp_eq C 58 dX4_data_130 (by decide) (fun c130 => ?_) (fun c130 => ?_)
                        · refine g_lv [0, 1, 2, 3, 4] (lv' := [(0, .ref m), (1, .int x), (2, .int y), (3, .int x4), (4, .int m4)]) rfl ?_
                          exact ih58 (m4) (j) (by omega) (by omega) (by omega) (by exact hj1) (by exact Or.inr (Or.inr (by omega))) (by exact fun _ => hqj) (by exact hnj)
                        · refine g_aload_n C dX4_data_133 0 rfl ?_
                          refine g_iload C dX4_data_134 4 rfl ?_
                          refine g_callV C r mv_X4_50 dX4_data_136 (c_X4_look g.l E m ib f sz pl wr u0 u4 u5 u6 u7 u8 u9 u10 u11 u12 u13 u14 S P m4 (j) hS hP hPS hSm (by omega) (by omega)) (wr := []) (As := [.int m4]) (rest := []) (Spl.at [] [0, 1] rfl rfl rfl) 0 rfl rfl rfl rfl (Nat.le_of_ble_eq_true rfl) (by decide) (Nat.le_refl _) (Nat.le_refl _) (fun v w h => ?_)
                          obtain ⟨x136, rfl, e136, rfl⟩ := h
                          change G E g [(m, .inr (6, [u0, .ref ib, .int sz, .int pl, u4, u5, u6, u7, u8, u9, u10, u11, u12, u13, u14, .int wr])), (ib, aB E (1500) (f))] _ _ _ _ [.int x136]
                          have hbx136 := hb8 (j)
                          refine g_callS C r ms_X4_58 dX4_data_139 (c_X4_isMark g.l E x136) (wr := [(m, .inr (6, [u0, .ref ib, .int sz, .int pl, u4, u5, u6, u7, u8, u9, u10, u11, u12, u13, u14, .int wr])), (ib, aB E (1500) (f))]) (As := [.int x136]) (rest := []) (Spl.at [0, 1] [] rfl rfl rfl) rfl (Nat.le_of_ble_eq_true rfl) (by decide) (Nat.le_refl _) (Nat.le_refl _) (fun v w h => ?_)
                          obtain ⟨x139, rfl, e139, rfl⟩ := h
                          change G E g [(m, .inr (6, [u0, .ref ib, .int sz, .int pl, u4, u5, u6, u7, u8, u9, u10, u11, u12, u13, u14, .int wr])), (ib, aB E (1500) (f))] _ _ _ _ [.int x139]
                          refine g_if_eq C 152 dX4_data_142 (by decide) (fun c142 => ?_) (fun c142 => ?_)
                          · replace e139 := bl0 e139 c142
                            refine g_iinc C dX4_data_152 4 rfl (by rw [hN]; decide) (by decide) (by omega) (fun x152 e152 => ?_)
                            refine g_lvE (lv' := [(4, .int x152), (0, .ref m), (1, .int x), (2, .int y), (3, .int x4)]) rfl ?_
                            refine g_goto C 116 dX4_data_155 (by decide) ?_
                            refine g_lv [1, 2, 3, 4, 0] (lv' := [(0, .ref m), (1, .int x), (2, .int y), (3, .int x4), (4, .int x152)]) rfl ?_
                            exact ih116 (x152) (j + 1) (by omega) (by omega) (by omega) (by show lk f P (j + 1 - 1) ≠ 31; rw [show j + 1 - 1 = j by omega]; omega) (by exact hqj) (by rw [hnj, fO_miss (by omega) (by omega), show la - j - 1 = la - (j + 1) by omega])
                          · replace e139 := bl1 e139 c142
                            refine g_aload_n C dX4_data_145 0 rfl ?_
                            refine g_iload C dX4_data_146 4 rfl ?_
                            refine g_callV C r mv_X4_54 dX4_data_148 (c_X4_bad g.l E m ib sz pl wr u0 u4 u5 u6 u7 u8 u9 u10 u11 u12 u13 u14 m4) (wr := [(ib, aB E (1500) (f))]) (As := [.int m4]) (rest := []) (Spl.at [1] [0] rfl rfl rfl) 0 rfl rfl rfl rfl (Nat.le_of_ble_eq_true rfl) (by decide) (Nat.le_refl _) (Nat.le_refl _) (fun v w h => ?_)
                            obtain ⟨x148, rfl, e148, rfl⟩ := h
                            change G E g [(ib, aB E (1500) (f)), (m, .inr (6, [u0, .ref ib, .int sz, .int pl, u4, u5, u6, u7, u8, u9, u10, u11, u12, u13, u14, .int m4]))] _ _ _ _ [.int x148]
                            refine g_perm [1, 0] rfl (ws' := [(m, .inr (6, [u0, .ref ib, .int sz, .int pl, u4, u5, u6, u7, u8, u9, u10, u11, u12, u13, u14, .int m4])), (ib, aB E (1500) (f))]) rfl ?_
                            exact g_iret C F dX4_data_151 rfl (nz_b x148 (by omega)) (Nat.le_refl _) (Nat.le_refl _) (by have h8 := fO_hit (b := lk f P) (last := la) (fr := j) (n := la - j) (by omega) (by omega) (by omega); have h9 := wOth_3 (b := lk f P) (fr := fr) (la := la) (by omega) (by omega) (hnj.trans h8) (by omega); exact ⟨_, _, rfl, Or.inr ⟨by omega, by omega, by omega⟩, rfl⟩)
                  refine g_lv [1, 2, 3, 4, 0] (lv' := [(0, .ref m), (1, .int x), (2, .int y), (3, .int x4), (4, .int x113)]) rfl ?_
                  exact loop116 _ (x113) (k + 2) (Nat.lt_succ_self _) (by omega) (by omega) (by show lk f P (k + 2 - 1) ≠ 31; rw [show k + 2 - 1 = k + 1 by omega]; omega) (by omega) (by rw [hn, fO_miss (by omega) (by omega), fO_miss (by omega) (by omega), show la - k - 1 - 1 = la - (k + 2) by omega])
                · replace e98 := bl1 e98 c101
                  refine g_aload_n C dX4_data_104 0 rfl ?_
                  refine g_iload C dX4_data_105 4 rfl ?_
                  refine g_iconst C dX4_data_107 (by decide) (fun x107 e107 => ?_)
                  refine g_iadd C dX4_data_108 (by omega) (fun x108 e108 => ?_)
                  refine g_callV C r mv_X4_54 dX4_data_109 (c_X4_bad g.l E m ib sz pl wr u0 u4 u5 u6 u7 u8 u9 u10 u11 u12 u13 u14 x108) (wr := [(ib, aB E (1500) (f))]) (As := [.int x108]) (rest := []) (Spl.at [1] [0] rfl rfl rfl) 0 rfl rfl rfl rfl (Nat.le_of_ble_eq_true rfl) (by decide) (Nat.le_refl _) (Nat.le_refl _) (fun v w h => ?_)
                  obtain ⟨x109, rfl, e109, rfl⟩ := h
                  change G E g [(ib, aB E (1500) (f)), (m, .inr (6, [u0, .ref ib, .int sz, .int pl, u4, u5, u6, u7, u8, u9, u10, u11, u12, u13, u14, .int x108]))] _ _ _ _ [.int x109]
                  refine g_perm [1, 0] rfl (ws' := [(m, .inr (6, [u0, .ref ib, .int sz, .int pl, u4, u5, u6, u7, u8, u9, u10, u11, u12, u13, u14, .int x108])), (ib, aB E (1500) (f))]) rfl ?_
                  exact g_iret C F dX4_data_112 rfl (nz_b x109 (by omega)) (Nat.le_refl _) (Nat.le_refl _) (by have h7 := fO_miss (b := lk f P) (last := la) (fr := k) (n := la - k) (by omega) (by omega); have h8 := fO_hit (b := lk f P) (last := la) (fr := k + 1) (n := la - k - 1) (by omega) (by show _ ∨ lk f P (k + 1 - 1) = 31 ∨ _; rw [show k + 1 - 1 = k by omega]; omega) (by omega); have h9 := wOth_3 (b := lk f P) (fr := fr) (la := la) (by omega) (by omega) (hn.trans (h7.trans h8)) (by omega); exact ⟨_, _, rfl, Or.inr ⟨by omega, by omega, by omega⟩, rfl⟩)
              · refine g_aload_n C dX4_data_83 0 rfl ?_
                refine g_iload C dX4_data_84 4 rfl ?_
                refine g_callV C r mv_X4_54 dX4_data_86 (c_X4_bad g.l E m ib sz pl wr u0 u4 u5 u6 u7 u8 u9 u10 u11 u12 u13 u14 n4) (wr := [(ib, aB E (1500) (f))]) (As := [.int n4]) (rest := []) (Spl.at [1] [0] rfl rfl rfl) 0 rfl rfl rfl rfl (Nat.le_of_ble_eq_true rfl) (by decide) (Nat.le_refl _) (Nat.le_refl _) (fun v w h => ?_)
                obtain ⟨x86, rfl, e86, rfl⟩ := h
                change G E g [(ib, aB E (1500) (f)), (m, .inr (6, [u0, .ref ib, .int sz, .int pl, u4, u5, u6, u7, u8, u9, u10, u11, u12, u13, u14, .int n4]))] _ _ _ _ [.int x86]
                refine g_perm [1, 0] rfl (ws' := [(m, .inr (6, [u0, .ref ib, .int sz, .int pl, u4, u5, u6, u7, u8, u9, u10, u11, u12, u13, u14, .int n4])), (ib, aB E (1500) (f))]) rfl ?_
                exact g_iret C F dX4_data_89 rfl (nz_b x86 (by omega)) (Nat.le_refl _) (Nat.le_refl _) (by have h8 := fO_hit (b := lk f P) (last := la) (fr := k) (n := la - k) (by omega) (by omega) (by omega); have h9 := wOth_3 (b := lk f P) (fr := fr) (la := la) hnm1 (by omega) (hn.trans h8) (by omega); exact ⟨_, _, rfl, Or.inr ⟨by omega, by omega, by omega⟩, rfl⟩)
      refine g_lv [2, 3, 4, 1, 0] (lv' := [(0, .ref m), (1, .int x), (2, .int y), (3, .int x4), (4, .int x55)]) rfl ?_
      exact loop58 _ (x55) (fr + 2) (Nat.lt_succ_self _) (by omega) (by omega) (by show lk f P (fr + 2 - 1) ≠ 31; rw [show fr + 2 - 1 = fr + 1 by omega]; exact hfr1) (by exact Or.inl rfl) (by intro h; exact absurd rfl h) (by rfl)
    · replace e24 := bl1 e24 c27
      refine g_lv [1, 2, 3, 0] (lv' := [(0, .ref m), (1, .int x), (2, .int y), (3, .int x4)]) rfl ?_
      exact J30 trivial (by have hnm := nM2 (lk f P) fr; omega)
end
section
theorem wRow_1 {b : Nat → Nat} {row base all : Nat} (h : nD b row 12 ≠ -1) : wRow b row base all = nD b row 12 := by unfold wRow; rw [if_pos h]
theorem wRow_2 {b : Nat → Nat} {row base all : Nat} (h : nD b row 12 = -1) (h2 : numI b (row + 3) 4 < 1 ∨ (9 < numI b row 3 ∧ numI b (row + 3) 4 < 3) ∨ (base : Int) + numI b (row + 7) 5 + numI b (row + 3) 4 > (all : Int) - 1) : wRow b row base all = ((row + 3 : Nat) : Int) := by unfold wRow; rw [if_neg (by omega), if_pos h2]
theorem wRow_3 {b : Nat → Nat} {row base all : Nat} (h : nD b row 12 = -1) (h2 : ¬ (numI b (row + 3) 4 < 1 ∨ (9 < numI b row 3 ∧ numI b (row + 3) 4 < 3) ∨ (base : Int) + numI b (row + 7) 5 + numI b (row + 3) 4 > (all : Int) - 1)) (h3 : numI b row 3 ≤ 9) : wRow b row base all = wCtl b (base + (numI b (row + 7) 5).toNat) (base + (numI b (row + 7) 5).toNat + (numI b (row + 3) 4).toNat - 1) := by unfold wRow; rw [if_neg (by omega), if_neg h2, if_pos h3]
theorem wRow_4 {b : Nat → Nat} {row base all : Nat} (h : nD b row 12 = -1) (h2 : ¬ (numI b (row + 3) 4 < 1 ∨ (9 < numI b row 3 ∧ numI b (row + 3) 4 < 3) ∨ (base : Int) + numI b (row + 7) 5 + numI b (row + 3) 4 > (all : Int) - 1)) (h3 : 9 < numI b row 3) : wRow b row base all = wOth b (base + (numI b (row + 7) 5).toNat) (base + (numI b (row + 7) 5).toNat + (numI b (row + 3) 4).toNat - 1) := by unfold wRow; rw [if_neg (by omega), if_neg h2, if_neg (by omega)]
def wHd (b : Nat → Nat) (all : Nat) (B : Int) : Int := if ¬ (25 ≤ B ∧ B ≤ (all : Int) - 1 ∧ (B - 25) % 12 = 0) then 12 else if b (B.toNat - 1) ≠ 30 then B - 1 else if b (all - 1) ≠ 29 then (all : Int) - 1 else if 60 < (B - 25) / 12 then 24 else -1
theorem if_cas {c3 c4 c5 c6 : Prop} [Decidable c3] [Decidable c4] [Decidable c5] [Decidable c6] {x4 x5 F : Int} (h4 : c3 → x4 ≠ -1) (h5 : x5 ≠ -1) : (if (if c3 then (-1 : Int) else 12) ≠ -1 then (if c3 then (-1 : Int) else 12) else if c4 then x4 else if c5 then x5 else if c6 then 24 else F) = if (if ¬ c3 then 12 else if c4 then x4 else if c5 then x5 else if c6 then 24 else -1) ≠ (-1 : Int) then (if ¬ c3 then 12 else if c4 then x4 else if c5 then x5 else if c6 then 24 else -1) else F := by
  by_cases h3 : c3
  · have := h4 h3
    by_cases g4 : c4
    · simp [h3, g4, this]
    · by_cases g5 : c5
      · simp [h3, g4, g5, h5]
      · by_cases g6 : c6 <;> simp [h3, g4, g5, g6]
  · simp [h3]
theorem wRec_eq (b : Nat → Nat) (all : Nat) (h26 : 26 ≤ all) : wRec b all = if wFix b ≠ -1 then wFix b else if nD b 12 5 ≠ -1 then nD b 12 5 else if wHd b all (numI b 12 5) ≠ -1 then wHd b all (numI b 12 5) else fRow b (numI b 12 5).toNat all 0 ((numI b 12 5 - 25) / 12).toNat := by
  unfold wRec wLead
  by_cases h1 : wFix b ≠ -1
  · rw [if_pos h1, if_pos h1, if_pos h1]
  · rw [if_neg h1, if_neg h1]
    by_cases h2 : nD b 12 5 ≠ -1
    · rw [if_pos h2, if_pos h2, if_pos h2]
    · rw [if_neg h2, if_neg h2]
      unfold wHd
      exact if_cas (fun h => by omega) (by omega)
theorem wHd_ok {b : Nat → Nat} {all : Nat} {B : Int} (h26 : 26 ≤ all) (h : wHd b all B = -1) : 25 ≤ B ∧ B ≤ (all : Int) - 1 ∧ (B - 25) % 12 = 0 ∧ (B - 25) / 12 ≤ 60 := by
  unfold wHd at h
  (repeat' split at h) <;> omega
/-- the rows that were read, in an array -/
def RW (b : Nat → Nat) (nf : Nat → Int32) (k : Nat) : Prop := ∀ i, i < k → (nf (3 * i)).toInt = numI b (24 + 12 * i) 3 ∧ (nf (3 * i + 1)).toInt = numI b (24 + 12 * i + 3) 4 ∧ (nf (3 * i + 2)).toInt = numI b (24 + 12 * i + 7) 5
theorem RW_0 (b : Nat → Nat) (nf : Nat → Int32) : RW b nf 0 := fun i h => by omega
theorem RW_step {b : Nat → Nat} {nf nf2 : Nat → Int32} {k : Nat} (h : RW b nf k) (hk : ∀ j, j < 3 * k → nf2 j = nf j) (h1 : (nf2 (3 * k)).toInt = numI b (24 + 12 * k) 3) (h2 : (nf2 (3 * k + 1)).toInt = numI b (24 + 12 * k + 3) 4) (h3 : (nf2 (3 * k + 2)).toInt = numI b (24 + 12 * k + 7) 5) : RW b nf2 (k + 1) := by
  intro i hi
  by_cases e : i = k
  · subst e; exact ⟨h1, h2, h3⟩
  · rw [hk (3 * i) (by omega), hk (3 * i + 1) (by omega), hk (3 * i + 2) (by omega)]
    exact h i (by omega)
theorem upd_s (f : Nat → Int32) (k : Nat) (v : Int32) : upd f k v k = v := by simp [upd]
theorem upd_n {f : Nat → Int32} {k j : Nat} {v : Int32} (h : j ≠ k) : upd f k v j = f j := by simp [upd, h]
theorem upd3_1 (f : Nat → Int32) (k : Nat) (a b c : Int32) : upd (upd (upd f (3 * k) a) (3 * k + 1) b) (3 * k + 2) c (3 * k) = a := by rw [upd_n (by omega), upd_n (by omega), upd_s]
theorem upd3_2 (f : Nat → Int32) (k : Nat) (a b c : Int32) : upd (upd (upd f (3 * k) a) (3 * k + 1) b) (3 * k + 2) c (3 * k + 1) = b := by rw [upd_n (by omega), upd_s]
theorem upd3_3 (f : Nat → Int32) (k : Nat) (a b c : Int32) : upd (upd (upd f (3 * k) a) (3 * k + 1) b) (3 * k + 2) c (3 * k + 2) = c := by rw [upd_s]
theorem upd3_o (f : Nat → Int32) (k : Nat) (a b c : Int32) (j : Nat) (h : j < 3 * k) : upd (upd (upd f (3 * k) a) (3 * k + 1) b) (3 * k + 2) c j = f j := by rw [upd_n (by omega), upd_n (by omega), upd_n (by omega)]
end
section
set_option maxHeartbeats 3000000 in
set_option maxRecDepth 10000 in
theorem c_X4_row (l : Launch) (E : GE) (m ib nr : Nat) (f nf : Nat → Int32) (sz pl wr : Int32) (u0 u4 u5 u6 u7 u8 u9 u10 u12 u13 u14 : Value) (S P : Nat) (x y z : Int32) (rr base all : Nat) (hS : sz.toInt = (S : Int)) (hP : pl.toInt = (P : Int)) (hPS : P ≤ S) (hSm : S ≤ 1500) (hx : x.toInt = (rr : Int)) (hy : y.toInt = (base : Int)) (hz : z.toInt = (all : Int)) (hr : rr < 60) (hrow : 24 + 12 * rr + 12 ≤ S - P) (hb1 : base ≤ S - P) (hal : all ≤ S - P) (ha0 : 1 ≤ all) : Ctr l E yX4_row cX4_row 8 (some .boolean) 3 (0) (0) [.ref m, .int x, .int y, .int z] [(m, .inr (6, [u0, .ref ib, .int sz, .int pl, u4, u5, u6, u7, u8, u9, u10, .ref nr, u12, u13, u14, .int wr])), (ib, aB E (1500) (f)), (nr, aI E (180) (nf))] (fun v w => ∃ (r wr2 : Int32) (nf2 : Nat → Int32), v = some (.int r) ∧ ((r.toInt = 1 ∧ wRow (lk f P) (24 + 12 * rr) base all = -1 ∧ wr2 = wr ∧ (nf2 (3 * rr)).toInt = numI (lk f P) (24 + 12 * rr) 3 ∧ (nf2 (3 * rr + 1)).toInt = numI (lk f P) (24 + 12 * rr + 3) 4 ∧ (nf2 (3 * rr + 2)).toInt = numI (lk f P) (24 + 12 * rr + 7) 5 ∧ (∀ j, j < 3 * rr → nf2 j = nf j)) ∨ (r.toInt = 0 ∧ wRow (lk f P) (24 + 12 * rr) base all ≠ -1 ∧ wr2.toInt = wRow (lk f P) (24 + 12 * rr) base all)) ∧ w = [(m, .inr (6, [u0, .ref ib, .int sz, .int pl, u4, u5, u6, u7, u8, u9, u10, .ref nr, u12, u13, u14, .int wr2])), (ib, aB E (1500) (f)), (nr, aI E (180) (nf2))]) := by
  refine Ctr.intro (by decide) (Nat.le_of_ble_eq_true rfl) (fun g hgl hN C r F hi => ?_)
  subst hgl
  have hb8 := lk_lt f P
  change G E g [(m, .inr (6, [u0, .ref ib, .int sz, .int pl, u4, u5, u6, u7, u8, u9, u10, .ref nr, u12, u13, u14, .int wr])), (ib, aB E (1500) (f)), (nr, aI E (180) (nf))] 0 0 0 [(0, .ref m), (1, .int x), (2, .int y), (3, .int z)] []
  refine g_bipush C dX4_row_0 (by decide) (fun x0 e0 => ?_)
  refine g_bipush C dX4_row_2 (by decide) (fun x2 e2 => ?_)
  refine g_iload_n C dX4_row_4 1 rfl ?_
  refine g_imul C dX4_row_5 (12 * x.toInt) (by rw [e2]) (by omega) (fun x5 e5 => ?_)
  refine g_iadd C dX4_row_6 (by omega) (fun x6 e6 => ?_)
  refine g_istore C dX4_row_7 (by rw [hN]; decide) (lv' := [(4, .int x6), (0, .ref m), (1, .int x), (2, .int y), (3, .int z)]) rfl ?_
  refine g_aload_n C dX4_row_9 1 rfl ?_
  refine g_iload C dX4_row_10 0 rfl ?_
  refine g_bipush C dX4_row_12 (by decide) (fun x12 e12 => ?_)
  refine g_callV C r mv_X4_65 dX4_row_14 (c_X4_digits g.l E m ib f sz pl wr u0 u4 u5 u6 u7 u8 u9 u10 (.ref nr) u12 u13 u14 S P x6 x12 (24 + 12 * rr) (12) hS hP hPS hSm (by omega) (by omega) (by omega)) (wr := [(nr, aI E (180) (nf))]) (As := [.int x6, .int x12]) (rest := []) (Spl.at [2] [0, 1] rfl rfl rfl) 0 rfl rfl rfl rfl (Nat.le_of_ble_eq_true rfl) (by decide) (Nat.le_refl _) (Nat.le_refl _) (fun v w h => ?_)
  obtain ⟨x14, w14, rfl, e14, rfl⟩ := h
  change G E g [(nr, aI E (180) (nf)), (m, .inr (6, [u0, .ref ib, .int sz, .int pl, u4, u5, u6, u7, u8, u9, u10, .ref nr, u12, u13, u14, .int w14])), (ib, aB E (1500) (f))] _ _ _ _ [.int x14]
  refine g_if_ne C 22 dX4_row_17 (by decide) (fun c17 => ?_) (fun c17 => ?_)
  · replace e14 := bl1 e14 c17
    have hrw : x6.toInt = ((24 + 12 * rr : Nat) : Int) := by omega
    have hd := nD_dig (b := lk f P) (fr := 24 + 12 * rr) (n := 12) e14.1
    have hn3 := num3 (b := lk f P) (fr := 24 + 12 * rr) (fun j h1 h2 => hd j (by omega) (by omega))
    have hn4 := num4 (b := lk f P) (fr := 24 + 12 * rr + 3) (fun j h1 h2 => hd j (by omega) (by omega))
    have hn5 := num5 (b := lk f P) (fr := 24 + 12 * rr + 7) (fun j h1 h2 => hd j (by omega) (by omega))
    obtain ⟨hnd, rfl⟩ := e14
    clear hd e0 e2 e5 e6 e12 c17
    refine g_aload_n C dX4_row_22 1 rfl ?_
    refine g_iload C dX4_row_23 0 rfl ?_
    refine g_iconst C dX4_row_25 (by decide) (fun x25 e25 => ?_)
    refine g_callV C r mv_X4_68 dX4_row_26 (c_X4_number g.l E m ib f sz pl w14 u0 u4 u5 u6 u7 u8 u9 u10 (.ref nr) u12 u13 u14 S P x6 x25 (24 + 12 * rr) (3) hS hP hPS hSm (by omega) (by omega) (by decide) (by omega)) (wr := [(nr, aI E (180) (nf))]) (As := [.int x6, .int x25]) (rest := []) (Spl.at [0] [1, 2] rfl rfl rfl) 0 rfl rfl rfl rfl (Nat.le_of_ble_eq_true rfl) (by decide) (Nat.le_refl _) (Nat.le_refl _) (fun v w h => ?_)
    obtain ⟨x26, rfl, e26, rfl⟩ := h
    change G E g [(nr, aI E (180) (nf)), (m, .inr (6, [u0, .ref ib, .int sz, .int pl, u4, u5, u6, u7, u8, u9, u10, .ref nr, u12, u13, u14, .int w14])), (ib, aB E (1500) (f))] _ _ _ _ [.int x26]
    refine g_istore C dX4_row_29 (by rw [hN]; decide) (lv' := [(5, .int x26), (4, .int x6), (0, .ref m), (1, .int x), (2, .int y), (3, .int z)]) rfl ?_
    refine g_aload_n C dX4_row_31 2 rfl ?_
    refine g_iload C dX4_row_32 1 rfl ?_
    refine g_iconst C dX4_row_34 (by decide) (fun x34 e34 => ?_)
    refine g_iadd C dX4_row_35 (by omega) (fun x35 e35 => ?_)
    refine g_iconst C dX4_row_36 (by decide) (fun x36 e36 => ?_)
    refine g_callV C r mv_X4_68 dX4_row_37 (c_X4_number g.l E m ib f sz pl w14 u0 u4 u5 u6 u7 u8 u9 u10 (.ref nr) u12 u13 u14 S P x35 x36 (24 + 12 * rr + 3) (4) hS hP hPS hSm (by omega) (by omega) (by decide) (by omega)) (wr := [(nr, aI E (180) (nf))]) (As := [.int x35, .int x36]) (rest := []) (Spl.at [0] [1, 2] rfl rfl rfl) 0 rfl rfl rfl rfl (Nat.le_of_ble_eq_true rfl) (by decide) (Nat.le_refl _) (Nat.le_refl _) (fun v w h => ?_)
    obtain ⟨x37, rfl, e37, rfl⟩ := h
    change G E g [(nr, aI E (180) (nf)), (m, .inr (6, [u0, .ref ib, .int sz, .int pl, u4, u5, u6, u7, u8, u9, u10, .ref nr, u12, u13, u14, .int w14])), (ib, aB E (1500) (f))] _ _ _ _ [.int x37]
    refine g_istore C dX4_row_40 (by rw [hN]; decide) (lv' := [(6, .int x37), (5, .int x26), (4, .int x6), (0, .ref m), (1, .int x), (2, .int y), (3, .int z)]) rfl ?_
    refine g_aload_n C dX4_row_42 3 rfl ?_
    refine g_iload C dX4_row_43 2 rfl ?_
    refine g_bipush C dX4_row_45 (by decide) (fun x45 e45 => ?_)
    refine g_iadd C dX4_row_47 (by omega) (fun x47 e47 => ?_)
    refine g_iconst C dX4_row_48 (by decide) (fun x48 e48 => ?_)
    refine g_callV C r mv_X4_68 dX4_row_49 (c_X4_number g.l E m ib f sz pl w14 u0 u4 u5 u6 u7 u8 u9 u10 (.ref nr) u12 u13 u14 S P x47 x48 (24 + 12 * rr + 7) (5) hS hP hPS hSm (by omega) (by omega) (by decide) (by omega)) (wr := [(nr, aI E (180) (nf))]) (As := [.int x47, .int x48]) (rest := []) (Spl.at [0] [1, 2] rfl rfl rfl) 0 rfl rfl rfl rfl (Nat.le_of_ble_eq_true rfl) (by decide) (Nat.le_refl _) (Nat.le_refl _) (fun v w h => ?_)
    obtain ⟨x49, rfl, e49, rfl⟩ := h
    change G E g [(nr, aI E (180) (nf)), (m, .inr (6, [u0, .ref ib, .int sz, .int pl, u4, u5, u6, u7, u8, u9, u10, .ref nr, u12, u13, u14, .int w14])), (ib, aB E (1500) (f))] _ _ _ _ [.int x49]
    refine g_istore C dX4_row_52 (by rw [hN]; decide) (lv' := [(7, .int x49), (6, .int x37), (5, .int x26), (4, .int x6), (0, .ref m), (1, .int x), (2, .int y), (3, .int z)]) rfl ?_
    have J85 : ∀ (_ : True) (hbad : numI (lk f P) (24 + 12 * rr + 3) 4 < 1 ∨ (9 < numI (lk f P) (24 + 12 * rr) 3 ∧ numI (lk f P) (24 + 12 * rr + 3) 4 < 3) ∨ (base : Int) + numI (lk f P) (24 + 12 * rr + 7) 5 + numI (lk f P) (24 + 12 * rr + 3) 4 > (all : Int) - 1), G E g [(m, .inr (6, [u0, .ref ib, .int sz, .int pl, u4, u5, u6, u7, u8, u9, u10, .ref nr, u12, u13, u14, .int w14])), (ib, aB E (1500) (f)), (nr, aI E (180) (nf))] 0 0 85 [(0, .ref m), (1, .int x), (2, .int y), (3, .int z), (4, .int x6), (5, .int x26), (6, .int x37), (7, .int x49)] [] := by
      intro _ hbad
      refine g_aload_n C dX4_row_85 0 rfl ?_
      refine g_iload C dX4_row_86 4 rfl ?_
      refine g_iconst C dX4_row_88 (by decide) (fun x88 e88 => ?_)
      refine g_iadd C dX4_row_89 (by omega) (fun x89 e89 => ?_)
      refine g_callV C r mv_X4_54 dX4_row_90 (c_X4_bad g.l E m ib sz pl w14 u0 u4 u5 u6 u7 u8 u9 u10 (.ref nr) u12 u13 u14 x89) (wr := [(ib, aB E (1500) (f)), (nr, aI E (180) (nf))]) (As := [.int x89]) (rest := []) (Spl.at [1, 2] [0] rfl rfl rfl) 0 rfl rfl rfl rfl (Nat.le_of_ble_eq_true rfl) (by decide) (Nat.le_refl _) (Nat.le_refl _) (fun v w h => ?_)
      obtain ⟨x90, rfl, e90, rfl⟩ := h
      change G E g [(ib, aB E (1500) (f)), (nr, aI E (180) (nf)), (m, .inr (6, [u0, .ref ib, .int sz, .int pl, u4, u5, u6, u7, u8, u9, u10, .ref nr, u12, u13, u14, .int x89]))] _ _ _ _ [.int x90]
      refine g_perm [2, 0, 1] rfl (ws' := [(m, .inr (6, [u0, .ref ib, .int sz, .int pl, u4, u5, u6, u7, u8, u9, u10, .ref nr, u12, u13, u14, .int x89])), (ib, aB E (1500) (f)), (nr, aI E (180) (nf))]) rfl ?_
      exact g_iret C F dX4_row_93 rfl (nz_b x90 (by omega)) (Nat.le_refl _) (Nat.le_refl _) (by have h9 := wRow_2 (b := lk f P) (row := 24 + 12 * rr) (base := base) (all := all) hnd hbad; exact ⟨_, _, _, rfl, Or.inr ⟨by omega, by omega, by omega⟩, rfl⟩)
    have J94 : ∀ (_ : True) (hgood : ¬ (numI (lk f P) (24 + 12 * rr + 3) 4 < 1 ∨ (9 < numI (lk f P) (24 + 12 * rr) 3 ∧ numI (lk f P) (24 + 12 * rr + 3) 4 < 3) ∨ (base : Int) + numI (lk f P) (24 + 12 * rr + 7) 5 + numI (lk f P) (24 + 12 * rr + 3) 4 > (all : Int) - 1)), G E g [(m, .inr (6, [u0, .ref ib, .int sz, .int pl, u4, u5, u6, u7, u8, u9, u10, .ref nr, u12, u13, u14, .int w14])), (ib, aB E (1500) (f)), (nr, aI E (180) (nf))] 0 0 94 [(0, .ref m), (1, .int x), (2, .int y), (3, .int z), (4, .int x6), (5, .int x26), (6, .int x37), (7, .int x49)] [] := by
      intro _ hgood
      refine g_aload_n C dX4_row_94 0 rfl ?_
      refine gf_X4_30 C 0 rfl rfl dX4_row_95 ?_
      refine g_iconst C dX4_row_98 (by decide) (fun x98 e98 => ?_)
      refine g_iload_n C dX4_row_99 1 rfl ?_
      refine g_imul C dX4_row_100 (3 * x.toInt) (by rw [e98]) (by omega) (fun x100 e100 => ?_)
      refine g_iload C dX4_row_101 5 rfl ?_
      refine g_iastore C 2 rfl dX4_row_103 (3 * rr) (by omega) (by omega) ?_
      change G E g [(m, .inr (6, [u0, .ref ib, .int sz, .int pl, u4, u5, u6, u7, u8, u9, u10, .ref nr, u12, u13, u14, .int w14])), (ib, aB E (1500) (f)), (nr, aI E (180) (upd (nf) (3 * rr) x26))] _ _ _ _ _
      refine g_aload_n C dX4_row_104 0 rfl ?_
      refine gf_X4_30 C 0 rfl rfl dX4_row_105 ?_
      refine g_iconst C dX4_row_108 (by decide) (fun x108 e108 => ?_)
      refine g_iload_n C dX4_row_109 1 rfl ?_
      refine g_imul C dX4_row_110 (3 * x.toInt) (by rw [e108]) (by omega) (fun x110 e110 => ?_)
      refine g_iconst C dX4_row_111 (by decide) (fun x111 e111 => ?_)
      refine g_iadd C dX4_row_112 (by omega) (fun x112 e112 => ?_)
      refine g_iload C dX4_row_113 6 rfl ?_
      refine g_iastore C 2 rfl dX4_row_115 (3 * rr + 1) (by omega) (by omega) ?_
      change G E g [(m, .inr (6, [u0, .ref ib, .int sz, .int pl, u4, u5, u6, u7, u8, u9, u10, .ref nr, u12, u13, u14, .int w14])), (ib, aB E (1500) (f)), (nr, aI E (180) (upd (upd (nf) (3 * rr) x26) (3 * rr + 1) x37))] _ _ _ _ _
      refine g_aload_n C dX4_row_116 0 rfl ?_
      refine gf_X4_30 C 0 rfl rfl dX4_row_117 ?_
      refine g_iconst C dX4_row_120 (by decide) (fun x120 e120 => ?_)
      refine g_iload_n C dX4_row_121 1 rfl ?_
      refine g_imul C dX4_row_122 (3 * x.toInt) (by rw [e120]) (by omega) (fun x122 e122 => ?_)
      refine g_iconst C dX4_row_123 (by decide) (fun x123 e123 => ?_)
      refine g_iadd C dX4_row_124 (by omega) (fun x124 e124 => ?_)
      refine g_iload C dX4_row_125 7 rfl ?_
      refine g_iastore C 2 rfl dX4_row_127 (3 * rr + 2) (by omega) (by omega) ?_
      change G E g [(m, .inr (6, [u0, .ref ib, .int sz, .int pl, u4, u5, u6, u7, u8, u9, u10, .ref nr, u12, u13, u14, .int w14])), (ib, aB E (1500) (f)), (nr, aI E (180) (upd (upd (upd (nf) (3 * rr) x26) (3 * rr + 1) x37) (3 * rr + 2) x49))] _ _ _ _ _
      refine g_iload C dX4_row_128 5 rfl ?_
      refine g_bipush C dX4_row_130 (by decide) (fun x130 e130 => ?_)
      refine g_icmp_ge C 148 dX4_row_132 (by decide) (fun c132 => ?_) (fun c132 => ?_)
      · refine g_aload_n C dX4_row_148 0 rfl ?_
        refine g_iload_n C dX4_row_149 2 rfl ?_
        refine g_iload C dX4_row_150 7 rfl ?_
        refine g_iadd C dX4_row_152 (by omega) (fun x152 e152 => ?_)
        refine g_iload C dX4_row_153 6 rfl ?_
        refine g_callV C r mv_X4_75 dX4_row_155 (c_X4_data g.l E m ib f sz pl w14 u0 u4 u5 u6 u7 u8 u9 u10 (.ref nr) u12 u13 u14 S P x152 x37 (base + (numI (lk f P) (24 + 12 * rr + 7) 5).toNat) (numI (lk f P) (24 + 12 * rr + 3) 4).toNat ((base + (numI (lk f P) (24 + 12 * rr + 7) 5).toNat) + (numI (lk f P) (24 + 12 * rr + 3) 4).toNat - 1) hS hP hPS hSm (by omega) (by omega) (by omega) rfl (by omega)) (wr := [(nr, aI E (180) (upd (upd (upd (nf) (3 * rr) x26) (3 * rr + 1) x37) (3 * rr + 2) x49))]) (As := [.int x152, .int x37]) (rest := []) (Spl.at [2] [0, 1] rfl rfl rfl) 0 rfl rfl rfl rfl (Nat.le_of_ble_eq_true rfl) (by decide) (Nat.le_refl _) (Nat.le_refl _) (fun v w h => ?_)
        obtain ⟨x155, w155, rfl, e155, rfl⟩ := h
        change G E g [(nr, aI E (180) (upd (upd (upd (nf) (3 * rr) x26) (3 * rr + 1) x37) (3 * rr + 2) x49)), (m, .inr (6, [u0, .ref ib, .int sz, .int pl, u4, u5, u6, u7, u8, u9, u10, .ref nr, u12, u13, u14, .int w155])), (ib, aB E (1500) (f))] _ _ _ _ [.int x155]
        refine g_perm [1, 2, 0] rfl (ws' := [(m, .inr (6, [u0, .ref ib, .int sz, .int pl, u4, u5, u6, u7, u8, u9, u10, .ref nr, u12, u13, u14, .int w155])), (ib, aB E (1500) (f)), (nr, aI E (180) (upd (upd (upd (nf) (3 * rr) x26) (3 * rr + 1) x37) (3 * rr + 2) x49))]) rfl ?_
        exact g_iret C F dX4_row_158 rfl (nz_b x155 (by omega)) (Nat.le_refl _) (Nat.le_refl _) (by have h9 := wRow_4 (b := lk f P) (row := 24 + 12 * rr) (base := base) (all := all) hnd hgood (by omega); rcases e155 with ⟨a1, a2, a3⟩ | ⟨a1, a2, a3⟩; exact ⟨_, _, _, rfl, Or.inl ⟨a1, by omega, a3, by rw [upd3_1]; omega, by rw [upd3_2]; omega, by rw [upd3_3]; omega, upd3_o _ _ _ _ _⟩, rfl⟩; exact ⟨_, _, _, rfl, Or.inr ⟨by omega, by omega, by omega⟩, rfl⟩)
      · refine g_aload_n C dX4_row_135 0 rfl ?_
        refine g_iload_n C dX4_row_136 2 rfl ?_
        refine g_iload C dX4_row_137 7 rfl ?_
        refine g_iadd C dX4_row_139 (by omega) (fun x139 e139 => ?_)
        refine g_iload C dX4_row_140 6 rfl ?_
        refine g_callV C r mv_X4_72 dX4_row_142 (c_X4_control g.l E m ib f sz pl w14 u0 u4 u5 u6 u7 u8 u9 u10 (.ref nr) u12 u13 u14 S P x139 x37 (base + (numI (lk f P) (24 + 12 * rr + 7) 5).toNat) (numI (lk f P) (24 + 12 * rr + 3) 4).toNat ((base + (numI (lk f P) (24 + 12 * rr + 7) 5).toNat) + (numI (lk f P) (24 + 12 * rr + 3) 4).toNat - 1) hS hP hPS hSm (by omega) (by omega) (by omega) rfl (by omega)) (wr := [(nr, aI E (180) (upd (upd (upd (nf) (3 * rr) x26) (3 * rr + 1) x37) (3 * rr + 2) x49))]) (As := [.int x139, .int x37]) (rest := []) (Spl.at [2] [0, 1] rfl rfl rfl) 0 rfl rfl rfl rfl (Nat.le_of_ble_eq_true rfl) (by decide) (Nat.le_refl _) (Nat.le_refl _) (fun v w h => ?_)
        obtain ⟨x142, w142, rfl, e142, rfl⟩ := h
        change G E g [(nr, aI E (180) (upd (upd (upd (nf) (3 * rr) x26) (3 * rr + 1) x37) (3 * rr + 2) x49)), (m, .inr (6, [u0, .ref ib, .int sz, .int pl, u4, u5, u6, u7, u8, u9, u10, .ref nr, u12, u13, u14, .int w142])), (ib, aB E (1500) (f))] _ _ _ _ [.int x142]
        refine g_goto C 158 dX4_row_145 (by decide) ?_
        refine g_perm [1, 2, 0] rfl (ws' := [(m, .inr (6, [u0, .ref ib, .int sz, .int pl, u4, u5, u6, u7, u8, u9, u10, .ref nr, u12, u13, u14, .int w142])), (ib, aB E (1500) (f)), (nr, aI E (180) (upd (upd (upd (nf) (3 * rr) x26) (3 * rr + 1) x37) (3 * rr + 2) x49))]) rfl ?_
        exact g_iret C F dX4_row_158 rfl (nz_b x142 (by omega)) (Nat.le_refl _) (Nat.le_refl _) (by have h9 := wRow_3 (b := lk f P) (row := 24 + 12 * rr) (base := base) (all := all) hnd hgood (by omega); rcases e142 with ⟨a1, a2, a3⟩ | ⟨a1, a2, a3⟩; exact ⟨_, _, _, rfl, Or.inl ⟨a1, by omega, a3, by rw [upd3_1]; omega, by rw [upd3_2]; omega, by rw [upd3_3]; omega, upd3_o _ _ _ _ _⟩, rfl⟩; exact ⟨_, _, _, rfl, Or.inr ⟨by omega, by omega, by omega⟩, rfl⟩)
    refine g_iload C dX4_row_54 1 rfl ?_
    refine g_if_eq C 85 dX4_row_56 (by decide) (fun c56 => ?_) (fun c56 => ?_)
    · refine g_lv [4, 5, 6, 7, 3, 2, 1, 0] (lv' := [(0, .ref m), (1, .int x), (2, .int y), (3, .int z), (4, .int x6), (5, .int x26), (6, .int x37), (7, .int x49)]) rfl ?_
      refine g_perm [1, 2, 0] rfl (ws' := [(m, .inr (6, [u0, .ref ib, .int sz, .int pl, u4, u5, u6, u7, u8, u9, u10, .ref nr, u12, u13, u14, .int w14])), (ib, aB E (1500) (f)), (nr, aI E (180) (nf))]) rfl ?_
      exact J85 trivial (by omega)
    · refine g_iload_n C dX4_row_59 6 rfl ?_
      refine g_iload C dX4_row_60 0 rfl ?_
      refine g_iadd C dX4_row_62 (by omega) (fun x62 e62 => ?_)
      refine g_iload C dX4_row_63 1 rfl ?_
      refine g_iadd C dX4_row_65 (by omega) (fun x65 e65 => ?_)
      refine g_iload_n C dX4_row_66 7 rfl ?_
      refine g_iconst C dX4_row_67 (by decide) (fun x67 e67 => ?_)
      refine g_isub C dX4_row_68 (by omega) (fun x68 e68 => ?_)
      refine g_icmp_gt C 85 dX4_row_69 (by decide) (fun c69 => ?_) (fun c69 => ?_)
      · refine g_lv [4, 5, 6, 7, 3, 2, 1, 0] (lv' := [(0, .ref m), (1, .int x), (2, .int y), (3, .int z), (4, .int x6), (5, .int x26), (6, .int x37), (7, .int x49)]) rfl ?_
        refine g_perm [1, 2, 0] rfl (ws' := [(m, .inr (6, [u0, .ref ib, .int sz, .int pl, u4, u5, u6, u7, u8, u9, u10, .ref nr, u12, u13, u14, .int w14])), (ib, aB E (1500) (f)), (nr, aI E (180) (nf))]) rfl ?_
        exact J85 trivial (by omega)
      · refine g_iload C dX4_row_72 2 rfl ?_
        refine g_bipush C dX4_row_74 (by decide) (fun x74 e74 => ?_)
        refine g_icmp_le C 94 dX4_row_76 (by decide) (fun c76 => ?_) (fun c76 => ?_)
        · refine g_lv [4, 5, 6, 7, 3, 2, 1, 0] (lv' := [(0, .ref m), (1, .int x), (2, .int y), (3, .int z), (4, .int x6), (5, .int x26), (6, .int x37), (7, .int x49)]) rfl ?_
          refine g_perm [1, 2, 0] rfl (ws' := [(m, .inr (6, [u0, .ref ib, .int sz, .int pl, u4, u5, u6, u7, u8, u9, u10, .ref nr, u12, u13, u14, .int w14])), (ib, aB E (1500) (f)), (nr, aI E (180) (nf))]) rfl ?_
          exact J94 trivial (by omega)
        · refine g_iload C dX4_row_79 1 rfl ?_
          refine g_iconst C dX4_row_81 (by decide) (fun x81 e81 => ?_)
          refine g_icmp_ge C 94 dX4_row_82 (by decide) (fun c82 => ?_) (fun c82 => ?_)
          · refine g_lv [4, 5, 6, 7, 3, 2, 1, 0] (lv' := [(0, .ref m), (1, .int x), (2, .int y), (3, .int z), (4, .int x6), (5, .int x26), (6, .int x37), (7, .int x49)]) rfl ?_
            refine g_perm [1, 2, 0] rfl (ws' := [(m, .inr (6, [u0, .ref ib, .int sz, .int pl, u4, u5, u6, u7, u8, u9, u10, .ref nr, u12, u13, u14, .int w14])), (ib, aB E (1500) (f)), (nr, aI E (180) (nf))]) rfl ?_
            exact J94 trivial (by omega)
          · refine g_lv [4, 5, 6, 7, 3, 2, 1, 0] (lv' := [(0, .ref m), (1, .int x), (2, .int y), (3, .int z), (4, .int x6), (5, .int x26), (6, .int x37), (7, .int x49)]) rfl ?_
            refine g_perm [1, 2, 0] rfl (ws' := [(m, .inr (6, [u0, .ref ib, .int sz, .int pl, u4, u5, u6, u7, u8, u9, u10, .ref nr, u12, u13, u14, .int w14])), (ib, aB E (1500) (f)), (nr, aI E (180) (nf))]) rfl ?_
            exact J85 trivial (by omega)
  · replace e14 := bl0 e14 c17
    refine g_iconst C dX4_row_20 (by decide) (fun x20 e20 => ?_)
    refine g_perm [1, 2, 0] rfl (ws' := [(m, .inr (6, [u0, .ref ib, .int sz, .int pl, u4, u5, u6, u7, u8, u9, u10, .ref nr, u12, u13, u14, .int w14])), (ib, aB E (1500) (f)), (nr, aI E (180) (nf))]) rfl ?_
    exact g_iret C F dX4_row_21 rfl (nz_b x20 (by omega)) (Nat.le_refl _) (Nat.le_refl _) (by have h9 := wRow_1 (b := lk f P) (row := 24 + 12 * rr) (base := base) (all := all) (by omega); exact ⟨_, _, _, rfl, Or.inr ⟨by omega, by omega, by omega⟩, rfl⟩)
end
section
theorem wHd_1 {b : Nat → Nat} {all : Nat} {B : Int} (h : ¬ (25 ≤ B ∧ B ≤ (all : Int) - 1 ∧ (B - 25) % 12 = 0)) : wHd b all B = 12 := by unfold wHd; rw [if_pos h]
theorem wHd_2 {b : Nat → Nat} {all : Nat} {B : Int} (h : 25 ≤ B ∧ B ≤ (all : Int) - 1 ∧ (B - 25) % 12 = 0) (h2 : b (B.toNat - 1) ≠ 30) : wHd b all B = B - 1 := by unfold wHd; rw [if_neg (by omega), if_pos h2]
theorem wHd_3 {b : Nat → Nat} {all : Nat} {B : Int} (h : 25 ≤ B ∧ B ≤ (all : Int) - 1 ∧ (B - 25) % 12 = 0) (h2 : b (B.toNat - 1) = 30) (h3 : b (all - 1) ≠ 29) : wHd b all B = (all : Int) - 1 := by unfold wHd; rw [if_neg (by omega), if_neg (by omega), if_pos h3]
theorem wHd_4 {b : Nat → Nat} {all : Nat} {B : Int} (h : 25 ≤ B ∧ B ≤ (all : Int) - 1 ∧ (B - 25) % 12 = 0) (h2 : b (B.toNat - 1) = 30) (h3 : b (all - 1) = 29) (h4 : 60 < (B - 25) / 12) : wHd b all B = 24 := by unfold wHd; rw [if_neg (by omega), if_neg (by omega), if_neg (by omega), if_pos h4]
theorem wHd_5 {b : Nat → Nat} {all : Nat} {B : Int} (h : 25 ≤ B ∧ B ≤ (all : Int) - 1 ∧ (B - 25) % 12 = 0) (h2 : b (B.toNat - 1) = 30) (h3 : b (all - 1) = 29) (h4 : (B - 25) / 12 ≤ 60) : wHd b all B = -1 := by unfold wHd; rw [if_neg (by omega), if_neg (by omega), if_neg (by omega), if_neg (by omega)]
theorem wRec_a {b : Nat → Nat} {all : Nat} (h26 : 26 ≤ all) (h : wFix b ≠ -1) : wRec b all = wFix b := by rw [wRec_eq b all h26, if_pos h]
theorem wRec_b {b : Nat → Nat} {all : Nat} (h26 : 26 ≤ all) (h : wFix b = -1) (h2 : nD b 12 5 ≠ -1) : wRec b all = nD b 12 5 := by rw [wRec_eq b all h26, if_neg (by omega), if_pos h2]
theorem wRec_c {b : Nat → Nat} {all : Nat} (h26 : 26 ≤ all) (h : wFix b = -1) (h2 : nD b 12 5 = -1) (h3 : wHd b all (numI b 12 5) ≠ -1) : wRec b all = wHd b all (numI b 12 5) := by rw [wRec_eq b all h26, if_neg (by omega), if_neg (by omega), if_pos h3]
theorem wRec_d {b : Nat → Nat} {all : Nat} (h26 : 26 ≤ all) (h : wFix b = -1) (h2 : nD b 12 5 = -1) (h3 : wHd b all (numI b 12 5) = -1) : wRec b all = fRow b (numI b 12 5).toNat all 0 ((numI b 12 5 - 25) / 12).toNat := by rw [wRec_eq b all h26, if_neg (by omega), if_neg (by omega), if_neg (by omega)]
theorem wFix_a {b : Nat → Nat} (h : b 10 ≠ 50) : wFix b = 10 := by unfold wFix; rw [if_pos h]
theorem wFix_b {b : Nat → Nat} (h0 : b 10 = 50) (h : b 11 ≠ 50) : wFix b = 11 := by unfold wFix; rw [if_neg (by omega), if_pos h]
theorem wFix_c {b : Nat → Nat} (h0 : b 10 = 50) (h1 : b 11 = 50) (h : b 20 ≠ 52) : wFix b = 20 := by unfold wFix; rw [if_neg (by omega), if_neg (by omega), if_pos h]
theorem wFix_d {b : Nat → Nat} (h0 : b 10 = 50) (h1 : b 11 = 50) (h2 : b 20 = 52) (h : b 21 ≠ 53) : wFix b = 21 := by unfold wFix; rw [if_neg (by omega), if_neg (by omega), if_neg (by omega), if_pos h]
theorem wFix_e {b : Nat → Nat} (h0 : b 10 = 50) (h1 : b 11 = 50) (h2 : b 20 = 52) (h : b 21 = 53) : wFix b = -1 := by unfold wFix; rw [if_neg (by omega), if_neg (by omega), if_neg (by omega), if_neg (by omega)]
theorem fRow_ok {b : Nat → Nat} {base all : Nat} : ∀ {n r : Nat}, fRow b base all r n = -1 → ∀ i, r ≤ i → i < r + n → wRow b (24 + 12 * i) base all = -1
  | 0, _, _, i, h1, h2 => by omega
  | n + 1, r, h, i, h1, h2 => by
    simp only [fRow] at h
    split at h
    · rename_i h3; exact absurd h h3
    · rename_i h3
      by_cases e : i = r
      · subst e; omega
      · exact fRow_ok h i (by omega) (by omega)
end
section
set_option maxHeartbeats 2000000 in
set_option maxRecDepth 10000 in
theorem c_X4_heads (l : Launch) (E : GE) (m ib : Nat) (f : Nat → Int32) (sz pl wr : Int32) (u0 u4 u5 u6 u7 u8 u9 u10 u11 u12 u13 u14 : Value) (S P : Nat) (x y : Int32) (all : Nat) (B : Int) (hS : sz.toInt = (S : Int)) (hP : pl.toInt = (P : Int)) (hPS : P ≤ S) (hSm : S ≤ 1500) (hx : x.toInt = (all : Int)) (hy : y.toInt = B) (hB : 0 ≤ B ∧ B ≤ 99999) (hal : all ≤ S - P) (h26 : 26 ≤ all) : Ctr l E yX4_heads cX4_heads 3 (some .boolean) 2 (0) (0) [.ref m, .int x, .int y] [(m, .inr (6, [u0, .ref ib, .int sz, .int pl, u4, u5, u6, u7, u8, u9, u10, u11, u12, u13, u14, .int wr])), (ib, aB E (1500) (f))] (fun v w => ∃ (r wr2 : Int32), v = some (.int r) ∧ ((r.toInt = 1 ∧ wHd (lk f P) all B = -1 ∧ wr2 = wr) ∨ (r.toInt = 0 ∧ wHd (lk f P) all B ≠ -1 ∧ wr2.toInt = wHd (lk f P) all B)) ∧ w = [(m, .inr (6, [u0, .ref ib, .int sz, .int pl, u4, u5, u6, u7, u8, u9, u10, u11, u12, u13, u14, .int wr2])), (ib, aB E (1500) (f))]) := by
  refine Ctr.intro (by decide) (Nat.le_of_ble_eq_true rfl) (fun g hgl hN C r F hi => ?_)
  subst hgl
  have hb8 := lk_lt f P
  change G E g [(m, .inr (6, [u0, .ref ib, .int sz, .int pl, u4, u5, u6, u7, u8, u9, u10, u11, u12, u13, u14, .int wr])), (ib, aB E (1500) (f))] 0 0 0 [(0, .ref m), (1, .int x), (2, .int y)] []
  have J23 : ∀ (_ : True) (hbad : ¬ (25 ≤ B ∧ B ≤ (all : Int) - 1 ∧ (B - 25) % 12 = 0)), G E g [(m, .inr (6, [u0, .ref ib, .int sz, .int pl, u4, u5, u6, u7, u8, u9, u10, u11, u12, u13, u14, .int wr])), (ib, aB E (1500) (f))] 0 0 23 [(0, .ref m), (1, .int x), (2, .int y)] [] := by
    intro _ hbad
    refine g_aload_n C dX4_heads_23 0 rfl ?_
    refine g_bipush C dX4_heads_24 (by decide) (fun x24 e24 => ?_)
    refine g_callV C r mv_X4_54 dX4_heads_26 (c_X4_bad g.l E m ib sz pl wr u0 u4 u5 u6 u7 u8 u9 u10 u11 u12 u13 u14 x24) (wr := [(ib, aB E (1500) (f))]) (As := [.int x24]) (rest := []) (Spl.at [1] [0] rfl rfl rfl) 0 rfl rfl rfl rfl (Nat.le_of_ble_eq_true rfl) (by decide) (Nat.le_refl _) (Nat.le_refl _) (fun v w h => ?_)
    obtain ⟨x26, rfl, e26, rfl⟩ := h
    change G E g [(ib, aB E (1500) (f)), (m, .inr (6, [u0, .ref ib, .int sz, .int pl, u4, u5, u6, u7, u8, u9, u10, u11, u12, u13, u14, .int x24]))] _ _ _ _ [.int x26]
    refine g_perm [1, 0] rfl (ws' := [(m, .inr (6, [u0, .ref ib, .int sz, .int pl, u4, u5, u6, u7, u8, u9, u10, u11, u12, u13, u14, .int x24])), (ib, aB E (1500) (f))]) rfl ?_
    exact g_iret C F dX4_heads_29 rfl (nz_b x26 (by omega)) (Nat.le_refl _) (Nat.le_refl _) (by have h9 := wHd_1 (b := lk f P) (all := all) (B := B) hbad; exact ⟨_, _, rfl, Or.inr ⟨by omega, by omega, by omega⟩, rfl⟩)
  refine g_iload_n C dX4_heads_0 2 rfl ?_
  refine g_bipush C dX4_heads_1 (by decide) (fun x1 e1 => ?_)
  refine g_icmp_lt C 23 dX4_heads_3 (by decide) (fun c3 => ?_) (fun c3 => ?_)
  · refine g_lv [0, 1, 2] (lv' := [(0, .ref m), (1, .int x), (2, .int y)]) rfl ?_
    exact J23 trivial (by omega)
  · refine g_iload_n C dX4_heads_6 2 rfl ?_
    refine g_iload_n C dX4_heads_7 1 rfl ?_
    refine g_iconst C dX4_heads_8 (by decide) (fun x8 e8 => ?_)
    refine g_isub C dX4_heads_9 (by omega) (fun x9 e9 => ?_)
    refine g_icmp_gt C 23 dX4_heads_10 (by decide) (fun c10 => ?_) (fun c10 => ?_)
    · refine g_lv [0, 1, 2] (lv' := [(0, .ref m), (1, .int x), (2, .int y)]) rfl ?_
      exact J23 trivial (by omega)
    · refine g_iload_n C dX4_heads_13 2 rfl ?_
      refine g_bipush C dX4_heads_14 (by decide) (fun x14 e14 => ?_)
      refine g_isub C dX4_heads_16 (by omega) (fun x16 e16 => ?_)
      refine g_bipush C dX4_heads_17 (by decide) (fun x17 e17 => ?_)
      refine g_irem C dX4_heads_19 (12) (e17) (by omega) (fun x19 e19 => ?_)
      refine g_if_eq C 30 dX4_heads_20 (by decide) (fun c20 => ?_) (fun c20 => ?_)
      · have hg : 25 ≤ B ∧ B ≤ (all : Int) - 1 ∧ (B - 25) % 12 = 0 := by omega
        clear J23
        refine g_aload_n C dX4_heads_30 0 rfl ?_
        refine g_iload_n C dX4_heads_31 2 rfl ?_
        refine g_iconst C dX4_heads_32 (by decide) (fun x32 e32 => ?_)
        refine g_isub C dX4_heads_33 (by omega) (fun x33 e33 => ?_)
        refine g_bipush C dX4_heads_34 (by decide) (fun x34 e34 => ?_)
        refine g_callV C r mv_X4_61 dX4_heads_36 (c_X4_must g.l E m ib f sz pl wr u0 u4 u5 u6 u7 u8 u9 u10 u11 u12 u13 u14 S P x33 x34 (B.toNat - 1) hS hP hPS hSm (by omega) (by omega)) (wr := []) (As := [.int x33, .int x34]) (rest := []) (Spl.at [] [0, 1] rfl rfl rfl) 0 rfl rfl rfl rfl (Nat.le_of_ble_eq_true rfl) (by decide) (Nat.le_refl _) (Nat.le_refl _) (fun v w h => ?_)
        obtain ⟨x36, w36, rfl, e36, rfl⟩ := h
        change G E g [(m, .inr (6, [u0, .ref ib, .int sz, .int pl, u4, u5, u6, u7, u8, u9, u10, u11, u12, u13, u14, .int w36])), (ib, aB E (1500) (f))] _ _ _ _ [.int x36]
        refine g_if_eq C 79 dX4_heads_39 (by decide) (fun c39 => ?_) (fun c39 => ?_)
        · replace e36 := bl0 e36 c39
          refine g_iconst C dX4_heads_79 (by decide) (fun x79 e79 => ?_)
          exact g_iret C F dX4_heads_80 rfl (nz_b x79 (by omega)) (Nat.le_refl _) (Nat.le_refl _) (by have h9 := wHd_2 (b := lk f P) (all := all) (B := B) hg (by omega); exact ⟨_, _, rfl, Or.inr ⟨by omega, by omega, by omega⟩, rfl⟩)
        · replace e36 := bl1 e36 c39
          obtain ⟨e36, rfl⟩ := e36
          refine g_aload_n C dX4_heads_42 0 rfl ?_
          refine g_iload_n C dX4_heads_43 1 rfl ?_
          refine g_iconst C dX4_heads_44 (by decide) (fun x44 e44 => ?_)
          refine g_isub C dX4_heads_45 (by omega) (fun x45 e45 => ?_)
          refine g_bipush C dX4_heads_46 (by decide) (fun x46 e46 => ?_)
          refine g_callV C r mv_X4_61 dX4_heads_48 (c_X4_must g.l E m ib f sz pl w36 u0 u4 u5 u6 u7 u8 u9 u10 u11 u12 u13 u14 S P x45 x46 (all - 1) hS hP hPS hSm (by omega) (by omega)) (wr := []) (As := [.int x45, .int x46]) (rest := []) (Spl.at [] [0, 1] rfl rfl rfl) 0 rfl rfl rfl rfl (Nat.le_of_ble_eq_true rfl) (by decide) (Nat.le_refl _) (Nat.le_refl _) (fun v w h => ?_)
          obtain ⟨x48, w48, rfl, e48, rfl⟩ := h
          change G E g [(m, .inr (6, [u0, .ref ib, .int sz, .int pl, u4, u5, u6, u7, u8, u9, u10, u11, u12, u13, u14, .int w48])), (ib, aB E (1500) (f))] _ _ _ _ [.int x48]
          refine g_if_eq C 79 dX4_heads_51 (by decide) (fun c51 => ?_) (fun c51 => ?_)
          · replace e48 := bl0 e48 c51
            refine g_iconst C dX4_heads_79 (by decide) (fun x79 e79 => ?_)
            exact g_iret C F dX4_heads_80 rfl (nz_b x79 (by omega)) (Nat.le_refl _) (Nat.le_refl _) (by have h9 := wHd_3 (b := lk f P) (all := all) (B := B) hg (by omega) (by omega); exact ⟨_, _, rfl, Or.inr ⟨by omega, by omega, by omega⟩, rfl⟩)
          · replace e48 := bl1 e48 c51
            obtain ⟨e48, rfl⟩ := e48
            refine g_iload_n C dX4_heads_54 2 rfl ?_
            refine g_bipush C dX4_heads_55 (by decide) (fun x55 e55 => ?_)
            refine g_isub C dX4_heads_57 (by omega) (fun x57 e57 => ?_)
            refine g_bipush C dX4_heads_58 (by decide) (fun x58 e58 => ?_)
            refine g_idiv C dX4_heads_60 (12) (e58) (by omega) (fun x60 e60 => ?_)
            refine g_bipush C dX4_heads_61 (by decide) (fun x61 e61 => ?_)
            refine g_icmp_le C 75 dX4_heads_63 (by decide) (fun c63 => ?_) (fun c63 => ?_)
            · refine g_iconst C dX4_heads_75 (by decide) (fun x75 e75 => ?_)
              refine g_goto C 80 dX4_heads_76 (by decide) ?_
              exact g_iret C F dX4_heads_80 rfl (nz_b x75 (by omega)) (Nat.le_refl _) (Nat.le_refl _) (by have h9 := wHd_5 (b := lk f P) (all := all) (B := B) hg (by omega) (by omega) (by omega); exact ⟨_, _, rfl, Or.inl ⟨by omega, by omega, rfl⟩, rfl⟩)
            · refine g_aload_n C dX4_heads_66 0 rfl ?_
              refine g_bipush C dX4_heads_67 (by decide) (fun x67 e67 => ?_)
              refine g_callV C r mv_X4_54 dX4_heads_69 (c_X4_bad g.l E m ib sz pl w48 u0 u4 u5 u6 u7 u8 u9 u10 u11 u12 u13 u14 x67) (wr := [(ib, aB E (1500) (f))]) (As := [.int x67]) (rest := []) (Spl.at [1] [0] rfl rfl rfl) 0 rfl rfl rfl rfl (Nat.le_of_ble_eq_true rfl) (by decide) (Nat.le_refl _) (Nat.le_refl _) (fun v w h => ?_)
              obtain ⟨x69, rfl, e69, rfl⟩ := h
              change G E g [(ib, aB E (1500) (f)), (m, .inr (6, [u0, .ref ib, .int sz, .int pl, u4, u5, u6, u7, u8, u9, u10, u11, u12, u13, u14, .int x67]))] _ _ _ _ [.int x69]
              refine g_if_eq C 79 dX4_heads_72 (by decide) (fun c72 => ?_) (fun c72 => ?_)
              · refine g_iconst C dX4_heads_79 (by decide) (fun x79 e79 => ?_)
                refine g_perm [1, 0] rfl (ws' := [(m, .inr (6, [u0, .ref ib, .int sz, .int pl, u4, u5, u6, u7, u8, u9, u10, u11, u12, u13, u14, .int x67])), (ib, aB E (1500) (f))]) rfl ?_
                exact g_iret C F dX4_heads_80 rfl (nz_b x79 (by omega)) (Nat.le_refl _) (Nat.le_refl _) (by have h9 := wHd_4 (b := lk f P) (all := all) (B := B) hg (by omega) (by omega) (by omega); exact ⟨_, _, rfl, Or.inr ⟨by omega, by omega, by omega⟩, rfl⟩)
              · exfalso; omega
      · refine g_lv [0, 1, 2] (lv' := [(0, .ref m), (1, .int x), (2, .int y)]) rfl ?_
        exact J23 trivial (by omega)
set_option maxHeartbeats 3000000 in
set_option maxRecDepth 10000 in
theorem c_X4_reads (l : Launch) (E : GE) (m ib nr : Nat) (f nf : Nat → Int32) (sz pl wr : Int32) (u0 u4 u5 u6 u7 u8 u9 u10 u12 u13 u14 : Value) (S P : Nat) (x : Int32) (all : Nat) (hS : sz.toInt = (S : Int)) (hP : pl.toInt = (P : Int)) (hPS : P ≤ S) (hSm : S ≤ 1500) (hx : x.toInt = (all : Int)) (hal : all ≤ S - P) (h26 : 26 ≤ all) : Ctr l E yX4_reads cX4_reads 4 (some .boolean) 4 (0) (0) [.ref m, .int x] [(m, .inr (6, [u0, .ref ib, .int sz, .int pl, u4, u5, u6, u7, u8, u9, u10, .ref nr, u12, u13, u14, .int wr])), (ib, aB E (1500) (f)), (nr, aI E (180) (nf))] (fun v w => ∃ (r wr2 : Int32) (nf2 : Nat → Int32), v = some (.int r) ∧ ((r.toInt = 1 ∧ wRec (lk f P) all = -1 ∧ wr2 = wr ∧ RW (lk f P) nf2 ((numI (lk f P) 12 5 - 25) / 12).toNat) ∨ (r.toInt = 0 ∧ wRec (lk f P) all ≠ -1 ∧ wr2.toInt = wRec (lk f P) all)) ∧ w = [(m, .inr (6, [u0, .ref ib, .int sz, .int pl, u4, u5, u6, u7, u8, u9, u10, .ref nr, u12, u13, u14, .int wr2])), (ib, aB E (1500) (f)), (nr, aI E (180) (nf2))]) := by
  refine Ctr.intro (by decide) (Nat.le_of_ble_eq_true rfl) (fun g hgl hN C r F hi => ?_)
  subst hgl
  have hb8 := lk_lt f P
  change G E g [(m, .inr (6, [u0, .ref ib, .int sz, .int pl, u4, u5, u6, u7, u8, u9, u10, .ref nr, u12, u13, u14, .int wr])), (ib, aB E (1500) (f)), (nr, aI E (180) (nf))] 0 0 0 [(0, .ref m), (1, .int x)] []
  refine g_aload_n C dX4_reads_0 0 rfl ?_
  refine g_bipush C dX4_reads_1 (by decide) (fun x1 e1 => ?_)
  refine g_bipush C dX4_reads_3 (by decide) (fun x3 e3 => ?_)
  refine g_callV C r mv_X4_61 dX4_reads_5 (c_X4_must g.l E m ib f sz pl wr u0 u4 u5 u6 u7 u8 u9 u10 (.ref nr) u12 u13 u14 S P x1 x3 (10) hS hP hPS hSm (by omega) (by omega)) (wr := [(nr, aI E (180) (nf))]) (As := [.int x1, .int x3]) (rest := []) (Spl.at [2] [0, 1] rfl rfl rfl) 0 rfl rfl rfl rfl (Nat.le_of_ble_eq_true rfl) (by decide) (Nat.le_refl _) (Nat.le_refl _) (fun v w h => ?_)
  obtain ⟨x5, w5, rfl, e5, rfl⟩ := h
  change G E g [(nr, aI E (180) (nf)), (m, .inr (6, [u0, .ref ib, .int sz, .int pl, u4, u5, u6, u7, u8, u9, u10, .ref nr, u12, u13, u14, .int w5])), (ib, aB E (1500) (f))] _ _ _ _ [.int x5]
  refine g_if_eq C 54 dX4_reads_8 (by decide) (fun c8 => ?_) (fun c8 => ?_)
  · replace e5 := bl0 e5 c8
    refine g_iconst C dX4_reads_54 (by decide) (fun x54 e54 => ?_)
    refine g_perm [1, 2, 0] rfl (ws' := [(m, .inr (6, [u0, .ref ib, .int sz, .int pl, u4, u5, u6, u7, u8, u9, u10, .ref nr, u12, u13, u14, .int w5])), (ib, aB E (1500) (f)), (nr, aI E (180) (nf))]) rfl ?_
    exact g_iret C F dX4_reads_55 rfl (nz_b x54 (by omega)) (Nat.le_refl _) (Nat.le_refl _) (by have h8 := wFix_a (b := lk f P) (by omega); have h9 := wRec_a (b := lk f P) (all := all) h26 (by omega); exact ⟨_, _, _, rfl, Or.inr ⟨by omega, by omega, by omega⟩, rfl⟩)
  · replace e5 := bl1 e5 c8
    obtain ⟨e5, rfl⟩ := e5
    refine g_aload_n C dX4_reads_11 0 rfl ?_
    refine g_bipush C dX4_reads_12 (by decide) (fun x12 e12 => ?_)
    refine g_bipush C dX4_reads_14 (by decide) (fun x14 e14 => ?_)
    refine g_callV C r mv_X4_61 dX4_reads_16 (c_X4_must g.l E m ib f sz pl w5 u0 u4 u5 u6 u7 u8 u9 u10 (.ref nr) u12 u13 u14 S P x12 x14 (11) hS hP hPS hSm (by omega) (by omega)) (wr := [(nr, aI E (180) (nf))]) (As := [.int x12, .int x14]) (rest := []) (Spl.at [0] [1, 2] rfl rfl rfl) 0 rfl rfl rfl rfl (Nat.le_of_ble_eq_true rfl) (by decide) (Nat.le_refl _) (Nat.le_refl _) (fun v w h => ?_)
    obtain ⟨x16, w16, rfl, e16, rfl⟩ := h
    change G E g [(nr, aI E (180) (nf)), (m, .inr (6, [u0, .ref ib, .int sz, .int pl, u4, u5, u6, u7, u8, u9, u10, .ref nr, u12, u13, u14, .int w16])), (ib, aB E (1500) (f))] _ _ _ _ [.int x16]
    refine g_if_eq C 54 dX4_reads_19 (by decide) (fun c19 => ?_) (fun c19 => ?_)
    · replace e16 := bl0 e16 c19
      refine g_iconst C dX4_reads_54 (by decide) (fun x54 e54 => ?_)
      refine g_perm [1, 2, 0] rfl (ws' := [(m, .inr (6, [u0, .ref ib, .int sz, .int pl, u4, u5, u6, u7, u8, u9, u10, .ref nr, u12, u13, u14, .int w16])), (ib, aB E (1500) (f)), (nr, aI E (180) (nf))]) rfl ?_
      exact g_iret C F dX4_reads_55 rfl (nz_b x54 (by omega)) (Nat.le_refl _) (Nat.le_refl _) (by have h8 := wFix_b (b := lk f P) (by omega) (by omega); have h9 := wRec_a (b := lk f P) (all := all) h26 (by omega); exact ⟨_, _, _, rfl, Or.inr ⟨by omega, by omega, by omega⟩, rfl⟩)
    · replace e16 := bl1 e16 c19
      obtain ⟨e16, rfl⟩ := e16
      refine g_aload_n C dX4_reads_22 0 rfl ?_
      refine g_bipush C dX4_reads_23 (by decide) (fun x23 e23 => ?_)
      refine g_bipush C dX4_reads_25 (by decide) (fun x25 e25 => ?_)
      refine g_callV C r mv_X4_61 dX4_reads_27 (c_X4_must g.l E m ib f sz pl w16 u0 u4 u5 u6 u7 u8 u9 u10 (.ref nr) u12 u13 u14 S P x23 x25 (20) hS hP hPS hSm (by omega) (by omega)) (wr := [(nr, aI E (180) (nf))]) (As := [.int x23, .int x25]) (rest := []) (Spl.at [0] [1, 2] rfl rfl rfl) 0 rfl rfl rfl rfl (Nat.le_of_ble_eq_true rfl) (by decide) (Nat.le_refl _) (Nat.le_refl _) (fun v w h => ?_)
      obtain ⟨x27, w27, rfl, e27, rfl⟩ := h
      change G E g [(nr, aI E (180) (nf)), (m, .inr (6, [u0, .ref ib, .int sz, .int pl, u4, u5, u6, u7, u8, u9, u10, .ref nr, u12, u13, u14, .int w27])), (ib, aB E (1500) (f))] _ _ _ _ [.int x27]
      refine g_if_eq C 54 dX4_reads_30 (by decide) (fun c30 => ?_) (fun c30 => ?_)
      · replace e27 := bl0 e27 c30
        refine g_iconst C dX4_reads_54 (by decide) (fun x54 e54 => ?_)
        refine g_perm [1, 2, 0] rfl (ws' := [(m, .inr (6, [u0, .ref ib, .int sz, .int pl, u4, u5, u6, u7, u8, u9, u10, .ref nr, u12, u13, u14, .int w27])), (ib, aB E (1500) (f)), (nr, aI E (180) (nf))]) rfl ?_
        exact g_iret C F dX4_reads_55 rfl (nz_b x54 (by omega)) (Nat.le_refl _) (Nat.le_refl _) (by have h8 := wFix_c (b := lk f P) (by omega) (by omega) (by omega); have h9 := wRec_a (b := lk f P) (all := all) h26 (by omega); exact ⟨_, _, _, rfl, Or.inr ⟨by omega, by omega, by omega⟩, rfl⟩)
      · replace e27 := bl1 e27 c30
        obtain ⟨e27, rfl⟩ := e27
        refine g_aload_n C dX4_reads_33 0 rfl ?_
        refine g_bipush C dX4_reads_34 (by decide) (fun x34 e34 => ?_)
        refine g_bipush C dX4_reads_36 (by decide) (fun x36 e36 => ?_)
        refine g_callV C r mv_X4_61 dX4_reads_38 (c_X4_must g.l E m ib f sz pl w27 u0 u4 u5 u6 u7 u8 u9 u10 (.ref nr) u12 u13 u14 S P x34 x36 (21) hS hP hPS hSm (by omega) (by omega)) (wr := [(nr, aI E (180) (nf))]) (As := [.int x34, .int x36]) (rest := []) (Spl.at [0] [1, 2] rfl rfl rfl) 0 rfl rfl rfl rfl (Nat.le_of_ble_eq_true rfl) (by decide) (Nat.le_refl _) (Nat.le_refl _) (fun v w h => ?_)
        obtain ⟨x38, w38, rfl, e38, rfl⟩ := h
        change G E g [(nr, aI E (180) (nf)), (m, .inr (6, [u0, .ref ib, .int sz, .int pl, u4, u5, u6, u7, u8, u9, u10, .ref nr, u12, u13, u14, .int w38])), (ib, aB E (1500) (f))] _ _ _ _ [.int x38]
        refine g_if_eq C 54 dX4_reads_41 (by decide) (fun c41 => ?_) (fun c41 => ?_)
        · replace e38 := bl0 e38 c41
          refine g_iconst C dX4_reads_54 (by decide) (fun x54 e54 => ?_)
          refine g_perm [1, 2, 0] rfl (ws' := [(m, .inr (6, [u0, .ref ib, .int sz, .int pl, u4, u5, u6, u7, u8, u9, u10, .ref nr, u12, u13, u14, .int w38])), (ib, aB E (1500) (f)), (nr, aI E (180) (nf))]) rfl ?_
          exact g_iret C F dX4_reads_55 rfl (nz_b x54 (by omega)) (Nat.le_refl _) (Nat.le_refl _) (by have h8 := wFix_d (b := lk f P) (by omega) (by omega) (by omega) (by omega); have h9 := wRec_a (b := lk f P) (all := all) h26 (by omega); exact ⟨_, _, _, rfl, Or.inr ⟨by omega, by omega, by omega⟩, rfl⟩)
        · replace e38 := bl1 e38 c41
          obtain ⟨e38, rfl⟩ := e38
          have hfx := wFix_e (b := lk f P) (by omega) (by omega) (by omega) (by omega)
          refine g_aload_n C dX4_reads_44 0 rfl ?_
          refine g_bipush C dX4_reads_45 (by decide) (fun x45 e45 => ?_)
          refine g_iconst C dX4_reads_47 (by decide) (fun x47 e47 => ?_)
          refine g_callV C r mv_X4_65 dX4_reads_48 (c_X4_digits g.l E m ib f sz pl w38 u0 u4 u5 u6 u7 u8 u9 u10 (.ref nr) u12 u13 u14 S P x45 x47 (12) (5) hS hP hPS hSm (by omega) (by omega) (by omega)) (wr := [(nr, aI E (180) (nf))]) (As := [.int x45, .int x47]) (rest := []) (Spl.at [0] [1, 2] rfl rfl rfl) 0 rfl rfl rfl rfl (Nat.le_of_ble_eq_true rfl) (by decide) (Nat.le_refl _) (Nat.le_refl _) (fun v w h => ?_)
          obtain ⟨x48, w48, rfl, e48, rfl⟩ := h
          change G E g [(nr, aI E (180) (nf)), (m, .inr (6, [u0, .ref ib, .int sz, .int pl, u4, u5, u6, u7, u8, u9, u10, .ref nr, u12, u13, u14, .int w48])), (ib, aB E (1500) (f))] _ _ _ _ [.int x48]
          refine g_if_ne C 56 dX4_reads_51 (by decide) (fun c51 => ?_) (fun c51 => ?_)
          · replace e48 := bl1 e48 c51
            obtain ⟨hnd, rfl⟩ := e48
            have hd := num5 (b := lk f P) (fr := 12) (fun j h1 h2 => nD_dig (fr := 12) (n := 5) hnd j h1 h2)
            clear e1 e3 e5 e12 e14 e16 e23 e25 e27 e34 e36 e38 e45 e47 c8 c19 c30 c41 c51
            refine g_aload_n C dX4_reads_56 0 rfl ?_
            refine g_bipush C dX4_reads_57 (by decide) (fun x57 e57 => ?_)
            refine g_iconst C dX4_reads_59 (by decide) (fun x59 e59 => ?_)
            refine g_callV C r mv_X4_68 dX4_reads_60 (c_X4_number g.l E m ib f sz pl w48 u0 u4 u5 u6 u7 u8 u9 u10 (.ref nr) u12 u13 u14 S P x57 x59 (12) (5) hS hP hPS hSm (by omega) (by omega) (by decide) (by omega)) (wr := [(nr, aI E (180) (nf))]) (As := [.int x57, .int x59]) (rest := []) (Spl.at [0] [1, 2] rfl rfl rfl) 0 rfl rfl rfl rfl (Nat.le_of_ble_eq_true rfl) (by decide) (Nat.le_refl _) (Nat.le_refl _) (fun v w h => ?_)
            obtain ⟨x60, rfl, e60, rfl⟩ := h
            change G E g [(nr, aI E (180) (nf)), (m, .inr (6, [u0, .ref ib, .int sz, .int pl, u4, u5, u6, u7, u8, u9, u10, .ref nr, u12, u13, u14, .int w48])), (ib, aB E (1500) (f))] _ _ _ _ [.int x60]
            refine g_istore_n C dX4_reads_63 (by rw [hN]; decide) (lv' := [(2, .int x60), (0, .ref m), (1, .int x)]) rfl ?_
            refine g_aload_n C dX4_reads_64 1 rfl ?_
            refine g_iload_n C dX4_reads_65 2 rfl ?_
            refine g_iload_n C dX4_reads_66 0 rfl ?_
            refine g_callV C r mv_X4_78 dX4_reads_67 (c_X4_heads g.l E m ib f sz pl w48 u0 u4 u5 u6 u7 u8 u9 u10 (.ref nr) u12 u13 u14 S P x x60 all (numI (lk f P) 12 5) hS hP hPS hSm hx (by omega) hd hal h26) (wr := [(nr, aI E (180) (nf))]) (As := [.int x, .int x60]) (rest := []) (Spl.at [0] [1, 2] rfl rfl rfl) 0 rfl rfl rfl rfl (Nat.le_of_ble_eq_true rfl) (by decide) (Nat.le_refl _) (Nat.le_refl _) (fun v w h => ?_)
            obtain ⟨x67, w67, rfl, e67, rfl⟩ := h
            change G E g [(nr, aI E (180) (nf)), (m, .inr (6, [u0, .ref ib, .int sz, .int pl, u4, u5, u6, u7, u8, u9, u10, .ref nr, u12, u13, u14, .int w67])), (ib, aB E (1500) (f))] _ _ _ _ [.int x67]
            refine g_if_ne C 75 dX4_reads_70 (by decide) (fun c70 => ?_) (fun c70 => ?_)
            · replace e67 := bl1 e67 c70
              obtain ⟨hhd, rfl⟩ := e67
              have hok := wHd_ok h26 hhd
              clear e57 e59 c70
              refine g_iconst C dX4_reads_75 (by decide) (fun x75 e75 => ?_)
              refine g_istore_n C dX4_reads_76 (by rw [hN]; decide) (lv' := [(3, .int x75), (2, .int x60), (0, .ref m), (1, .int x)]) rfl ?_
              have loop77 : ∀ (nn : Nat) (n3 : Int32) (nfk : Nat → Int32) (k : Nat) (hm : ((numI (lk f P) 12 5 - 25) / 12).toNat - k < nn) (hk : k ≤ ((numI (lk f P) 12 5 - 25) / 12).toNat) (hp : n3.toInt = (k : Int)) (hrw : RW (lk f P) nfk k) (hn : fRow (lk f P) (numI (lk f P) 12 5).toNat all 0 ((numI (lk f P) 12 5 - 25) / 12).toNat = fRow (lk f P) (numI (lk f P) 12 5).toNat all k (((numI (lk f P) 12 5 - 25) / 12).toNat - k)), G E g [(m, .inr (6, [u0, .ref ib, .int sz, .int pl, u4, u5, u6, u7, u8, u9, u10, .ref nr, u12, u13, u14, .int w67])), (ib, aB E (1500) (f)), (nr, aI E (180) (nfk))] 0 0 77 [(0, .ref m), (1, .int x), (2, .int x60), (3, .int n3)] [] := by
                intro nn
                induction nn with
                | zero => intro n3 nfk k hm hk hp hrw hn; omega
                | succ nn ih77 =>
                  intro n3 nfk k hm hk hp hrw hn
                  refine g_iload_n C dX4_reads_77 3 rfl ?_
                  refine g_iload_n C dX4_reads_78 2 rfl ?_
                  refine g_bipush C dX4_reads_79 (by decide) (fun x79 e79 => ?_)
                  refine g_isub C dX4_reads_81 (by omega) (fun x81 e81 => ?_)
                  refine g_bipush C dX4_reads_82 (by decide) (fun x82 e82 => ?_)
                  refine g_idiv C dX4_reads_84 (12) (e82) (by omega) (fun x84 e84 => ?_)
                  refine g_icmp_ge C 106 dX4_reads_85 (by decide) (fun c85 => ?_) (fun c85 => ?_)
                  · refine g_iconst C dX4_reads_106 (by decide) (fun x106 e106 => ?_)
                    exact g_iret C F dX4_reads_107 rfl (nz_b x106 (by omega)) (Nat.le_refl _) (Nat.le_refl _) (by have h8 := fRow_zero (b := lk f P) (base := (numI (lk f P) 12 5).toNat) (all := all) (r := k) (n := ((numI (lk f P) 12 5 - 25) / 12).toNat - k) (by omega); have h9 := wRec_d (b := lk f P) (all := all) h26 hfx hnd hhd; exact ⟨_, _, _, rfl, Or.inl ⟨by omega, by omega, rfl, by rw [← show k = ((numI (lk f P) 12 5 - 25) / 12).toNat by omega]; exact hrw⟩, rfl⟩)
                  · refine g_aload_n C dX4_reads_88 0 rfl ?_
                    refine g_iload_n C dX4_reads_89 3 rfl ?_
                    refine g_iload_n C dX4_reads_90 2 rfl ?_
                    refine g_iload_n C dX4_reads_91 1 rfl ?_
                    refine g_callV C r mv_X4_81 dX4_reads_92 (c_X4_row g.l E m ib nr f (nfk) sz pl w67 u0 u4 u5 u6 u7 u8 u9 u10 u12 u13 u14 S P n3 x60 x k (numI (lk f P) 12 5).toNat all hS hP hPS hSm (by omega) (by omega) hx (by omega) (by omega) (by omega) hal (by omega)) (wr := []) (As := [.int n3, .int x60, .int x]) (rest := []) (Spl.at [] [0, 1, 2] rfl rfl rfl) 0 rfl rfl rfl rfl (Nat.le_of_ble_eq_true rfl) (by decide) (Nat.le_refl _) (Nat.le_refl _) (fun v w h => ?_)
                    obtain ⟨x92, w92, nf92, rfl, e92, rfl⟩ := h
                    change G E g [(m, .inr (6, [u0, .ref ib, .int sz, .int pl, u4, u5, u6, u7, u8, u9, u10, .ref nr, u12, u13, u14, .int w92])), (ib, aB E (1500) (f)), (nr, aI E (180) (nf92))] _ _ _ _ [.int x92]
                    refine g_if_ne C 100 dX4_reads_95 (by decide) (fun c95 => ?_) (fun c95 => ?_)
                    · replace e92 := bl1 e92 c95
                      obtain ⟨q1, rfl, q2, q3, q4, q5⟩ := e92
                      refine g_iinc C dX4_reads_100 3 rfl (by rw [hN]; decide) (by decide) (by omega) (fun x100 e100 => ?_)
                      refine g_lvE (lv' := [(3, .int x100), (0, .ref m), (1, .int x), (2, .int x60)]) rfl ?_
                      refine g_goto C 77 dX4_reads_103 (by decide) ?_
                      refine g_lv [1, 2, 3, 0] (lv' := [(0, .ref m), (1, .int x), (2, .int x60), (3, .int x100)]) rfl ?_
                      exact ih77 (x100) (nf92) (k + 1) (by omega) (by omega) (by omega) (by exact RW_step hrw q5 q2 q3 q4) (by rw [hn, fRow_miss q1 (by omega), show ((numI (lk f P) 12 5 - 25) / 12).toNat - k - 1 = ((numI (lk f P) 12 5 - 25) / 12).toNat - (k + 1) by omega])
                    · replace e92 := bl0 e92 c95
                      refine g_iconst C dX4_reads_98 (by decide) (fun x98 e98 => ?_)
                      exact g_iret C F dX4_reads_99 rfl (nz_b x98 (by omega)) (Nat.le_refl _) (Nat.le_refl _) (by have h8 := fRow_hit (b := lk f P) (base := (numI (lk f P) 12 5).toNat) (all := all) (r := k) (n := ((numI (lk f P) 12 5 - 25) / 12).toNat - k) e92.1 (by omega); have h9 := wRec_d (b := lk f P) (all := all) h26 hfx hnd hhd; exact ⟨_, _, _, rfl, Or.inr ⟨by omega, by omega, by omega⟩, rfl⟩)
              refine g_lv [2, 3, 1, 0] (lv' := [(0, .ref m), (1, .int x), (2, .int x60), (3, .int x75)]) rfl ?_
              refine g_perm [1, 2, 0] rfl (ws' := [(m, .inr (6, [u0, .ref ib, .int sz, .int pl, u4, u5, u6, u7, u8, u9, u10, .ref nr, u12, u13, u14, .int w67])), (ib, aB E (1500) (f)), (nr, aI E (180) (nf))]) rfl ?_
              exact loop77 _ (x75) (nf) (0) (Nat.lt_succ_self _) (by omega) (by omega) (by exact RW_0 _ _) (by rfl)
            · replace e67 := bl0 e67 c70
              refine g_iconst C dX4_reads_73 (by decide) (fun x73 e73 => ?_)
              refine g_perm [1, 2, 0] rfl (ws' := [(m, .inr (6, [u0, .ref ib, .int sz, .int pl, u4, u5, u6, u7, u8, u9, u10, .ref nr, u12, u13, u14, .int w67])), (ib, aB E (1500) (f)), (nr, aI E (180) (nf))]) rfl ?_
              exact g_iret C F dX4_reads_74 rfl (nz_b x73 (by omega)) (Nat.le_refl _) (Nat.le_refl _) (by have h9 := wRec_c (b := lk f P) (all := all) h26 hfx hnd (by omega); exact ⟨_, _, _, rfl, Or.inr ⟨by omega, by omega, by omega⟩, rfl⟩)
          · replace e48 := bl0 e48 c51
            refine g_iconst C dX4_reads_54 (by decide) (fun x54 e54 => ?_)
            refine g_perm [1, 2, 0] rfl (ws' := [(m, .inr (6, [u0, .ref ib, .int sz, .int pl, u4, u5, u6, u7, u8, u9, u10, .ref nr, u12, u13, u14, .int w48])), (ib, aB E (1500) (f)), (nr, aI E (180) (nf))]) rfl ?_
            exact g_iret C F dX4_reads_55 rfl (nz_b x54 (by omega)) (Nat.le_refl _) (Nat.le_refl _) (by have h9 := wRec_b (b := lk f P) (all := all) h26 hfx (by omega); exact ⟨_, _, _, rfl, Or.inr ⟨by omega, by omega, by omega⟩, rfl⟩)
end
section
/-! a record's fields: tag and all bytes (the indicators first, where there are any) -/
abbrev FL : Type := List (Nat × List Nat)
def fT (fl : FL) (i : Nat) : Nat := (fl.getD i (0, [])).1
def fB (fl : FL) (i : Nat) : List Nat := (fl.getD i (0, [])).2
/-- how the reference holds them -/
def MF (tg sy yb : Nat → Int32) (fl : FL) : Prop := ∀ i, i < fl.length → (tg i).toInt = (fT fl i : Int) ∧ (sy i).toInt = ((fB fl i).length : Int) ∧ Bs yb (1900 * i) (fB fl i)
/-- what holds of every record -/
def FW (fl : FL) : Prop := fl.length ≤ 60 ∧ ∀ i, i < fl.length → fT fl i ≤ 999 ∧ B8 (fB fl i) ∧ (fB fl i).length ≤ 1800 ∧ (9 < fT fl i → 2 ≤ (fB fl i).length ∧ ((fB fl i).drop 2).getLast? ≠ some 31) ∧ (fT fl i ≤ 9 → c31 (fB fl i) = 0)
/-- field(tag, i): from the p-th on, s of them with the tag lie ahead -/
def fF (fl : FL) (tag i : Int) : Nat → Nat → Int → Int
  | 0, _, _ => 0
  | n + 1, p, s => if (fT fl p : Int) = tag then (if s = i then (p : Int) + 1 else fF fl tag i n (p + 1) (s + 1)) else fF fl tag i n (p + 1) s
theorem fF_no {fl : FL} {tag i : Int} {n p : Nat} {s : Int} (h : ¬ (fT fl p : Int) = tag) (hn : 0 < n) : fF fl tag i n p s = fF fl tag i (n - 1) (p + 1) s := by
  cases n with
  | zero => omega
  | succ n => simp only [fF]; rw [if_neg h]; rfl
theorem fF_go {fl : FL} {tag i : Int} {n p : Nat} {s : Int} (h : (fT fl p : Int) = tag) (h2 : s ≠ i) (hn : 0 < n) : fF fl tag i n p s = fF fl tag i (n - 1) (p + 1) (s + 1) := by
  cases n with
  | zero => omega
  | succ n => simp only [fF]; rw [if_pos h, if_neg h2]; rfl
theorem fF_yes {fl : FL} {tag i : Int} {n p : Nat} {s : Int} (h : (fT fl p : Int) = tag) (h2 : s = i) (hn : 0 < n) : fF fl tag i n p s = (p : Int) + 1 := by
  cases n with
  | zero => omega
  | succ n => simp only [fF]; rw [if_pos h, if_pos h2]
theorem fF_zero {fl : FL} {tag i : Int} {n p : Nat} {s : Int} (hn : n = 0) : fF fl tag i n p s = 0 := by subst hn; rfl
theorem fF_neg {fl : FL} {tag i : Int} (hi : i < 0) : ∀ (n p : Nat) (s : Int), 0 ≤ s → fF fl tag i n p s = 0
  | 0, _, _, _ => rfl
  | n + 1, p, s, hs => by
    simp only [fF]
    split
    · rw [if_neg (by omega)]; exact fF_neg hi n (p + 1) (s + 1) (by omega)
    · exact fF_neg hi n (p + 1) s hs
def isFreeP (x : Int) : Prop := (5 ≤ x ∧ x ≤ 9) ∨ (17 ≤ x ∧ x ≤ 19) ∨ x = 22 ∨ x = 23
def p10 (j : Nat) : Nat := 10 ^ j
theorem p10_s (j : Nat) : p10 (j + 1) = 10 * p10 j := by unfold p10; rw [Nat.pow_succ]; omega
theorem p10_1 {i : Nat} (h : 1 ≤ i) : p10 (i + 1 - 1) = 10 * p10 (i - 1) := by rw [← p10_s]; congr 1; omega
theorem p10_pos : ∀ j : Nat, 1 ≤ p10 j
  | 0 => by simp [p10]
  | j + 1 => by have := p10_pos j; rw [p10_s]; omega
theorem p10_le {j : Nat} (h : j ≤ 4) : p10 j ≤ 10000 := by
  have := Nat.pow_le_pow_right (n := 10) (by decide) h
  unfold p10; simpa using this
theorem g_dup2 {E : GE} {g : Cf} {cc : ByteArray} {own : String} {ret : Option FieldType} {ws : va_W} {cells slots pc : Nat} {lv : List (Nat × Value)} {st : List Value} (C : Cx E g cc own ret) {v u : Value} (d : decode cc pc = .ok (.dup2, 1)) (hv : v.category = 1) (hu : u.category = 1) (kk : G E g ws cells slots (pc + 1) lv (v :: u :: v :: u :: st)) : G E g ws cells slots pc lv (v :: u :: st) :=
  fun H locs ls hl hP hD hS => lv_dup2_11 C.1 C.2.1 d hv hu (kk H locs ls hl hP hD hS)
theorem sn_div {x z : Int32} {n j : Nat} (hx : x.toInt = (n : Int)) (e : z.toInt = x.toInt / (p10 j : Int)) : z.toInt = ((n / p10 j : Nat) : Int) := by rw [e, hx]; rfl
theorem sn_dig {n j : Nat} {z a c : Int32} (h : z.toInt = ((n / p10 j : Nat) : Int)) (h2 : a.toInt = z.toInt % 10) (h3 : c.toInt = 48 + a.toInt) : u8 c = 48 + n / 10 ^ j % 10 := by
  show u8 c = 48 + n / p10 j % 10
  generalize n / p10 j = q at h
  exact u8_of (by rw [h3, h2, h]; omega) (by omega)
theorem sn_q {q z : Int32} {j : Nat} (hj : 1 ≤ j) (hq : q.toInt = (p10 (j - 1) : Int)) (hz : z.toInt = q.toInt / 10) : (j - 1 = 0 ∧ z.toInt = 0) ∨ (1 ≤ j - 1 ∧ z.toInt = (p10 (j - 1 - 1) : Int)) := by
  obtain ⟨j, rfl⟩ : ∃ i, j = i + 1 := ⟨j - 1, by omega⟩
  simp only [Nat.add_sub_cancel] at *
  cases j with
  | zero => left; refine ⟨rfl, ?_⟩; rw [hz, hq]; rfl
  | succ j =>
    right
    refine ⟨by omega, ?_⟩
    rw [hz, hq, p10_s, Nat.add_sub_cancel]
    omega
theorem sn_hd {n j : Nat} (hj : 1 ≤ j) : dg n j = (48 + n / 10 ^ (j - 1) % 10) :: dg n (j - 1) := by
  obtain ⟨j, rfl⟩ : ∃ i, j = i + 1 := ⟨j - 1, by omega⟩
  rfl
theorem sn_end {n j k : Nat} {ok o : List Nat} (hj : j = 0) (h : ok ++ dg n j = o ++ dg n k) : ok = o ++ dg n k := by
  subst hj; simpa [dg] using h
theorem sn_len {n j k : Nat} {ok o : List Nat} (h : ok ++ dg n j = o ++ dg n k) : ok.length + j = o.length + k := by
  have := congrArg List.length h
  simpa [dg_len] using this
end
section
set_option maxHeartbeats 1000000 in
set_option maxRecDepth 10000 in
theorem c_X4_thrown (l : Launch) (E : GE) (m : Nat) (t0 : Int32) (z1 z2 z3 z4 z5 z6 z7 z8 z9 z10 z11 z12 z13 z14 z15 : Value)  : Ctr l E yX4_thrown cX4_thrown 1 (some .int) 0 (0) (0) [.ref m] [(m, .inr (6, [.int t0, z1, z2, z3, z4, z5, z6, z7, z8, z9, z10, z11, z12, z13, z14, z15]))] (oI (fun r => r = t0) [(m, .inr (6, [.int t0, z1, z2, z3, z4, z5, z6, z7, z8, z9, z10, z11, z12, z13, z14, z15]))]) := by
  refine Ctr.intro (by decide) (Nat.le_of_ble_eq_true rfl) (fun g hgl hN C r F hi => ?_)
  subst hgl
  change G E g [(m, .inr (6, [.int t0, z1, z2, z3, z4, z5, z6, z7, z8, z9, z10, z11, z12, z13, z14, z15]))] 0 0 0 [(0, .ref m)] []
  refine g_aload_n C dX4_thrown_0 0 rfl ?_
  refine gf_X4_37 C 0 rfl rfl dX4_thrown_1 ?_
  exact g_iret C F dX4_thrown_4 rfl rfl (Nat.le_refl _) (Nat.le_refl _) (by exact ⟨_, rfl, rfl, rfl⟩)
set_option maxHeartbeats 1000000 in
set_option maxRecDepth 10000 in
theorem c_X4_isField (l : Launch) (E : GE) (m : Nat) (te nf x : Int32) (z0 z1 z2 z3 z5 z6 z7 z8 z10 z11 z12 z13 z14 z15 : Value)  : Ctr l E yX4_isField cX4_isField 2 (some .boolean) 0 (0) (0) [.ref m, .int x] [(m, .inr (6, [z0, z1, z2, z3, .int te, z5, z6, z7, z8, .int nf, z10, z11, z12, z13, z14, z15]))] (oI (fun r => (r.toInt = 1 ∧ te.toInt ≠ 0 ∧ 0 < x.toInt ∧ x.toInt ≤ nf.toInt) ∨ (r.toInt = 0 ∧ ¬ (te.toInt ≠ 0 ∧ 0 < x.toInt ∧ x.toInt ≤ nf.toInt))) [(m, .inr (6, [z0, z1, z2, z3, .int te, z5, z6, z7, z8, .int nf, z10, z11, z12, z13, z14, z15]))]) := by
  refine Ctr.intro (by decide) (Nat.le_of_ble_eq_true rfl) (fun g hgl hN C r F hi => ?_)
  subst hgl
  change G E g [(m, .inr (6, [z0, z1, z2, z3, .int te, z5, z6, z7, z8, .int nf, z10, z11, z12, z13, z14, z15]))] 0 0 0 [(0, .ref m), (1, .int x)] []
  refine g_aload_n C dX4_isField_0 0 rfl ?_
  refine gf_X4_91 C 0 rfl rfl dX4_isField_1 ?_
  refine g_if_eq C 23 dX4_isField_4 (by decide) (fun c4 => ?_) (fun c4 => ?_)
  · refine g_iconst C dX4_isField_23 (by decide) (fun x23 e23 => ?_)
    exact g_iret C F dX4_isField_24 rfl (nz_b x23 (by omega)) (Nat.le_refl _) (Nat.le_refl _) (by exact ⟨_, rfl, by omega, rfl⟩)
  · refine g_iload_n C dX4_isField_7 1 rfl ?_
    refine g_if_le C 23 dX4_isField_8 (by decide) (fun c8 => ?_) (fun c8 => ?_)
    · refine g_iconst C dX4_isField_23 (by decide) (fun x23 e23 => ?_)
      exact g_iret C F dX4_isField_24 rfl (nz_b x23 (by omega)) (Nat.le_refl _) (Nat.le_refl _) (by exact ⟨_, rfl, by omega, rfl⟩)
    · refine g_iload_n C dX4_isField_11 1 rfl ?_
      refine g_aload_n C dX4_isField_12 0 rfl ?_
      refine gf_X4_88 C 0 rfl rfl dX4_isField_13 ?_
      refine g_icmp_gt C 23 dX4_isField_16 (by decide) (fun c16 => ?_) (fun c16 => ?_)
      · refine g_iconst C dX4_isField_23 (by decide) (fun x23 e23 => ?_)
        exact g_iret C F dX4_isField_24 rfl (nz_b x23 (by omega)) (Nat.le_refl _) (Nat.le_refl _) (by exact ⟨_, rfl, by omega, rfl⟩)
      · refine g_iconst C dX4_isField_19 (by decide) (fun x19 e19 => ?_)
        refine g_goto C 24 dX4_isField_20 (by decide) ?_
        exact g_iret C F dX4_isField_24 rfl (nz_b x19 (by omega)) (Nat.le_refl _) (Nat.le_refl _) (by exact ⟨_, rfl, by omega, rfl⟩)
set_option maxHeartbeats 1000000 in
set_option maxRecDepth 10000 in
theorem c_X4_at (l : Launch) (E : GE) (m yb : Nat) (yf : Nat → Int32) (x y : Int32) (i k : Nat) (z0 z1 z2 z3 z4 z5 z6 z8 z9 z10 z11 z12 z13 z14 z15 : Value) (hx : x.toInt = ((i + 1 : Nat) : Int)) (hy : y.toInt = (k : Int)) (hi : i < 60) (hk : k < 1900) : Ctr l E yX4_at cX4_at 3 (some .int) 0 (0) (0) [.ref m, .int x, .int y] [(m, .inr (6, [z0, z1, z2, z3, z4, z5, z6, .ref yb, z8, z9, z10, z11, z12, z13, z14, z15])), (yb, aB E (114000) (yf))] (oI (fun r => r.toInt = (u8 (yf (1900 * i + k)) : Int)) [(m, .inr (6, [z0, z1, z2, z3, z4, z5, z6, .ref yb, z8, z9, z10, z11, z12, z13, z14, z15])), (yb, aB E (114000) (yf))]) := by
  refine Ctr.intro (by decide) (Nat.le_of_ble_eq_true rfl) (fun g hgl hN C r F hi => ?_)
  subst hgl
  change G E g [(m, .inr (6, [z0, z1, z2, z3, z4, z5, z6, .ref yb, z8, z9, z10, z11, z12, z13, z14, z15])), (yb, aB E (114000) (yf))] 0 0 0 [(0, .ref m), (1, .int x), (2, .int y)] []
  refine g_aload_n C dX4_at_0 0 rfl ?_
  refine gf_X4_21 C 0 rfl rfl dX4_at_1 ?_
  refine g_sipush C dX4_at_4 (by decide) (fun x4 e4 => ?_)
  refine g_iload_n C dX4_at_7 1 rfl ?_
  refine g_iconst C dX4_at_8 (by decide) (fun x8 e8 => ?_)
  refine g_isub C dX4_at_9 (by omega) (fun x9 e9 => ?_)
  refine g_imul C dX4_at_10 (1900 * x9.toInt) (by rw [e4]) (by omega) (fun x10 e10 => ?_)
  refine g_iload_n C dX4_at_11 2 rfl ?_
  refine g_iadd C dX4_at_12 (by omega) (fun x12 e12 => ?_)
  refine g_baload C 1 rfl dX4_at_13 (1900 * i + k) (by omega) (by omega) (fun x13 e13 => ?_)
  refine g_sipush C dX4_at_14 (by decide) (fun x14 e14 => ?_)
  refine g_iand255 C dX4_at_17 e14 (fun x17 e17 l17 => ?_)
  exact g_iret C F dX4_at_18 rfl rfl (Nat.le_refl _) (Nat.le_refl _) (by refine ⟨_, rfl, ?_, rfl⟩; show _ = _; rw [e17, e13])
set_option maxHeartbeats 1000000 in
set_option maxRecDepth 10000 in
theorem c_X4_length (l : Launch) (E : GE) (m : Nat) (t0 te nf : Int32) (z1 z2 z3 z5 z6 z7 z8 z10 z11 z12 z13 z14 z15 : Value)  : Ctr l E yX4_length cX4_length 1 (some .int) 0 (0) (0) [.ref m] [(m, .inr (6, [.int t0, z1, z2, z3, .int te, z5, z6, z7, z8, .int nf, z10, z11, z12, z13, z14, z15]))] (fun v w => ∃ (r t : Int32), v = some (.int r) ∧ t.toInt = 0 ∧ ((te.toInt ≠ 0 ∧ r.toInt = nf.toInt) ∨ (te.toInt = 0 ∧ r.toInt = -1)) ∧ w = [(m, .inr (6, [.int t, z1, z2, z3, .int te, z5, z6, z7, z8, .int nf, z10, z11, z12, z13, z14, z15]))]) := by
  refine Ctr.intro (by decide) (Nat.le_of_ble_eq_true rfl) (fun g hgl hN C r F hi => ?_)
  subst hgl
  change G E g [(m, .inr (6, [.int t0, z1, z2, z3, .int te, z5, z6, z7, z8, .int nf, z10, z11, z12, z13, z14, z15]))] 0 0 0 [(0, .ref m)] []
  refine g_aload_n C dX4_length_0 0 rfl ?_
  refine g_iconst C dX4_length_1 (by decide) (fun x1 e1 => ?_)
  refine gp_X4_37 C 0 rfl (Nat.le_of_ble_eq_true rfl) rfl rfl dX4_length_2 ?_
  change G E g [(m, .inr (6, [.int x1, z1, z2, z3, .int te, z5, z6, z7, z8, .int nf, z10, z11, z12, z13, z14, z15]))] _ _ _ _ _
  refine g_aload_n C dX4_length_5 0 rfl ?_
  refine gf_X4_91 C 0 rfl rfl dX4_length_6 ?_
  refine g_if_eq C 19 dX4_length_9 (by decide) (fun c9 => ?_) (fun c9 => ?_)
  · refine g_iconst C dX4_length_19 (by decide) (fun x19 e19 => ?_)
    exact g_iret C F dX4_length_20 rfl rfl (Nat.le_refl _) (Nat.le_refl _) (by exact ⟨_, _, rfl, by omega, by omega, rfl⟩)
  · refine g_aload_n C dX4_length_12 0 rfl ?_
    refine gf_X4_88 C 0 rfl rfl dX4_length_13 ?_
    refine g_goto C 20 dX4_length_16 (by decide) ?_
    exact g_iret C F dX4_length_20 rfl rfl (Nat.le_refl _) (Nat.le_refl _) (by exact ⟨_, _, rfl, by omega, by omega, rfl⟩)
set_option maxHeartbeats 1000000 in
set_option maxRecDepth 10000 in
theorem c_X4_directory (l : Launch) (E : GE) (m rb : Nat) (rf : Nat → Int32) (t0 rc x y : Int32) (n : Nat) (z1 z2 z3 z4 z5 z6 z7 z8 z9 z11 z13 z14 z15 : Value) (hrc : rc.toInt = (n : Int)) (hn : n ≤ 60) : Ctr l E yX4_directory cX4_directory 3 (some .int) 0 (0) (0) [.ref m, .int x, .int y] [(m, .inr (6, [.int t0, z1, z2, z3, z4, z5, z6, z7, z8, z9, .ref rb, z11, .int rc, z13, z14, z15])), (rb, aI E (180) (rf))] (fun v w => ∃ (r t : Int32), v = some (.int r) ∧ ((0 ≤ x.toInt ∧ x.toInt < (n : Int) ∧ t.toInt = 0 ∧ ((0 ≤ y.toInt ∧ y.toInt ≤ 2 ∧ r = rf (3 * x.toInt.toNat + y.toInt.toNat)) ∨ (¬ (0 ≤ y.toInt ∧ y.toInt ≤ 2) ∧ r.toInt = -1))) ∨ (¬ (0 ≤ x.toInt ∧ x.toInt < (n : Int)) ∧ t.toInt = 1 ∧ r.toInt = 0)) ∧ w = [(m, .inr (6, [.int t, z1, z2, z3, z4, z5, z6, z7, z8, z9, .ref rb, z11, .int rc, z13, z14, z15])), (rb, aI E (180) (rf))]) := by
  refine Ctr.intro (by decide) (Nat.le_of_ble_eq_true rfl) (fun g hgl hN C r F hi => ?_)
  subst hgl
  change G E g [(m, .inr (6, [.int t0, z1, z2, z3, z4, z5, z6, z7, z8, z9, .ref rb, z11, .int rc, z13, z14, z15])), (rb, aI E (180) (rf))] 0 0 0 [(0, .ref m), (1, .int x), (2, .int y)] []
  refine g_aload_n C dX4_directory_0 0 rfl ?_
  refine g_iconst C dX4_directory_1 (by decide) (fun x1 e1 => ?_)
  refine gp_X4_37 C 0 rfl (Nat.le_of_ble_eq_true rfl) rfl rfl dX4_directory_2 ?_
  change G E g [(m, .inr (6, [.int x1, z1, z2, z3, z4, z5, z6, z7, z8, z9, .ref rb, z11, .int rc, z13, z14, z15])), (rb, aI E (180) (rf))] _ _ _ _ _
  refine g_iload_n C dX4_directory_5 1 rfl ?_
  refine g_if_lt C 17 dX4_directory_6 (by decide) (fun c6 => ?_) (fun c6 => ?_)
  · refine g_aload_n C dX4_directory_17 0 rfl ?_
    refine g_iconst C dX4_directory_18 (by decide) (fun x18 e18 => ?_)
    refine gp_X4_37 C 0 rfl (Nat.le_of_ble_eq_true rfl) rfl rfl dX4_directory_19 ?_
    change G E g [(m, .inr (6, [.int x18, z1, z2, z3, z4, z5, z6, z7, z8, z9, .ref rb, z11, .int rc, z13, z14, z15])), (rb, aI E (180) (rf))] _ _ _ _ _
    refine g_iconst C dX4_directory_22 (by decide) (fun x22 e22 => ?_)
    exact g_iret C F dX4_directory_23 rfl rfl (Nat.le_refl _) (Nat.le_refl _) (by exact ⟨_, _, rfl, Or.inr ⟨by omega, by omega, by omega⟩, rfl⟩)
  · refine g_iload_n C dX4_directory_9 1 rfl ?_
    refine g_aload_n C dX4_directory_10 0 rfl ?_
    refine gf_X4_85 C 0 rfl rfl dX4_directory_11 ?_
    refine g_icmp_lt C 24 dX4_directory_14 (by decide) (fun c14 => ?_) (fun c14 => ?_)
    · refine g_iload_n C dX4_directory_24 2 rfl ?_
      refine g_if_lt C 33 dX4_directory_25 (by decide) (fun c25 => ?_) (fun c25 => ?_)
      · refine g_iconst C dX4_directory_33 (by decide) (fun x33 e33 => ?_)
        refine g_goto C 47 dX4_directory_34 (by decide) ?_
        exact g_iret C F dX4_directory_47 rfl rfl (Nat.le_refl _) (Nat.le_refl _) (by exact ⟨_, _, rfl, Or.inl ⟨by omega, by omega, by omega, Or.inr ⟨by omega, by omega⟩⟩, rfl⟩)
      · refine g_iload_n C dX4_directory_28 2 rfl ?_
        refine g_iconst C dX4_directory_29 (by decide) (fun x29 e29 => ?_)
        refine g_icmp_le C 37 dX4_directory_30 (by decide) (fun c30 => ?_) (fun c30 => ?_)
        · refine g_aload_n C dX4_directory_37 0 rfl ?_
          refine gf_X4_27 C 0 rfl rfl dX4_directory_38 ?_
          refine g_iconst C dX4_directory_41 (by decide) (fun x41 e41 => ?_)
          refine g_iload_n C dX4_directory_42 1 rfl ?_
          refine g_imul C dX4_directory_43 (3 * x.toInt) (by rw [e41]) (by omega) (fun x43 e43 => ?_)
          refine g_iload_n C dX4_directory_44 2 rfl ?_
          refine g_iadd C dX4_directory_45 (by omega) (fun x45 e45 => ?_)
          refine g_iaload C 1 rfl dX4_directory_46 (3 * x.toInt.toNat + y.toInt.toNat) (by omega) (by omega) (fun x46 e46 => ?_)
          exact g_iret C F dX4_directory_47 rfl rfl (Nat.le_refl _) (Nat.le_refl _) (by exact ⟨_, _, rfl, Or.inl ⟨by omega, by omega, by omega, Or.inl ⟨by omega, by omega, e46⟩⟩, rfl⟩)
        · refine g_iconst C dX4_directory_33 (by decide) (fun x33 e33 => ?_)
          refine g_goto C 47 dX4_directory_34 (by decide) ?_
          exact g_iret C F dX4_directory_47 rfl rfl (Nat.le_refl _) (Nat.le_refl _) (by exact ⟨_, _, rfl, Or.inl ⟨by omega, by omega, by omega, Or.inr ⟨by omega, by omega⟩⟩, rfl⟩)
    · refine g_aload_n C dX4_directory_17 0 rfl ?_
      refine g_iconst C dX4_directory_18 (by decide) (fun x18 e18 => ?_)
      refine gp_X4_37 C 0 rfl (Nat.le_of_ble_eq_true rfl) rfl rfl dX4_directory_19 ?_
      change G E g [(m, .inr (6, [.int x18, z1, z2, z3, z4, z5, z6, z7, z8, z9, .ref rb, z11, .int rc, z13, z14, z15])), (rb, aI E (180) (rf))] _ _ _ _ _
      refine g_iconst C dX4_directory_22 (by decide) (fun x22 e22 => ?_)
      exact g_iret C F dX4_directory_23 rfl rfl (Nat.le_refl _) (Nat.le_refl _) (by exact ⟨_, _, rfl, Or.inr ⟨by omega, by omega, by omega⟩, rfl⟩)
set_option maxHeartbeats 1000000 in
set_option maxRecDepth 10000 in
theorem c_X4_octet (l : Launch) (E : GE) (m wb : Nat) (wf : Nat → Int32) (t0 wz x : Int32) (o : List Nat) (z1 z2 z3 z4 z5 z6 z7 z8 z9 z10 z11 z12 z15 : Value) (hwz : wz.toInt = (o.length : Int)) (ho : o.length ≤ 115000) (hB : Bs wf 0 o) : Ctr l E yX4_octet cX4_octet 2 (some .byte) 0 (0) (0) [.ref m, .int x] [(m, .inr (6, [.int t0, z1, z2, z3, z4, z5, z6, z7, z8, z9, z10, z11, z12, .ref wb, .int wz, z15])), (wb, aB E (115000) (wf))] (fun v w => ∃ (r t : Int32), v = some (.int r) ∧ ((0 ≤ x.toInt ∧ x.toInt < (o.length : Int) ∧ t.toInt = 0 ∧ r = sB (o.getD x.toInt.toNat 0)) ∨ (¬ (0 ≤ x.toInt ∧ x.toInt < (o.length : Int)) ∧ t.toInt = 1 ∧ r.toInt = 0)) ∧ w = [(m, .inr (6, [.int t, z1, z2, z3, z4, z5, z6, z7, z8, z9, z10, z11, z12, .ref wb, .int wz, z15])), (wb, aB E (115000) (wf))]) := by
  refine Ctr.intro (by decide) (Nat.le_of_ble_eq_true rfl) (fun g hgl hN C r F hi => ?_)
  subst hgl
  change G E g [(m, .inr (6, [.int t0, z1, z2, z3, z4, z5, z6, z7, z8, z9, z10, z11, z12, .ref wb, .int wz, z15])), (wb, aB E (115000) (wf))] 0 0 0 [(0, .ref m), (1, .int x)] []
  refine g_aload_n C dX4_octet_0 0 rfl ?_
  refine g_iconst C dX4_octet_1 (by decide) (fun x1 e1 => ?_)
  refine gp_X4_37 C 0 rfl (Nat.le_of_ble_eq_true rfl) rfl rfl dX4_octet_2 ?_
  change G E g [(m, .inr (6, [.int x1, z1, z2, z3, z4, z5, z6, z7, z8, z9, z10, z11, z12, .ref wb, .int wz, z15])), (wb, aB E (115000) (wf))] _ _ _ _ _
  refine g_iload_n C dX4_octet_5 1 rfl ?_
  refine g_if_lt C 17 dX4_octet_6 (by decide) (fun c6 => ?_) (fun c6 => ?_)
  · refine g_aload_n C dX4_octet_17 0 rfl ?_
    refine g_iconst C dX4_octet_18 (by decide) (fun x18 e18 => ?_)
    refine gp_X4_37 C 0 rfl (Nat.le_of_ble_eq_true rfl) rfl rfl dX4_octet_19 ?_
    change G E g [(m, .inr (6, [.int x18, z1, z2, z3, z4, z5, z6, z7, z8, z9, z10, z11, z12, .ref wb, .int wz, z15])), (wb, aB E (115000) (wf))] _ _ _ _ _
    refine g_iconst C dX4_octet_22 (by decide) (fun x22 e22 => ?_)
    exact g_iret C F dX4_octet_23 rfl (by rw [ti_inj (y := 0) e22]; rfl) (Nat.le_refl _) (Nat.le_refl _) (by exact ⟨_, _, rfl, Or.inr ⟨by omega, by omega, by omega⟩, rfl⟩)
  · refine g_iload_n C dX4_octet_9 1 rfl ?_
    refine g_aload_n C dX4_octet_10 0 rfl ?_
    refine gf_X4_118 C 0 rfl rfl dX4_octet_11 ?_
    refine g_icmp_lt C 24 dX4_octet_14 (by decide) (fun c14 => ?_) (fun c14 => ?_)
    · refine g_aload_n C dX4_octet_24 0 rfl ?_
      refine gf_X4_34 C 0 rfl rfl dX4_octet_25 ?_
      refine g_iload_n C dX4_octet_28 1 rfl ?_
      refine g_baload C 1 rfl dX4_octet_29 (0 + x.toInt.toNat) (by omega) (by omega) (fun x29 e29 => ?_)
      exact g_iret C F dX4_octet_30 rfl (nb_sB e29 (hB _ (by omega))) (Nat.le_refl _) (Nat.le_refl _) (by exact ⟨_, _, rfl, Or.inl ⟨by omega, by omega, by omega, by rw [e29]; exact hB _ (by omega)⟩, rfl⟩)
    · refine g_aload_n C dX4_octet_17 0 rfl ?_
      refine g_iconst C dX4_octet_18 (by decide) (fun x18 e18 => ?_)
      refine gp_X4_37 C 0 rfl (Nat.le_of_ble_eq_true rfl) rfl rfl dX4_octet_19 ?_
      change G E g [(m, .inr (6, [.int x18, z1, z2, z3, z4, z5, z6, z7, z8, z9, z10, z11, z12, .ref wb, .int wz, z15])), (wb, aB E (115000) (wf))] _ _ _ _ _
      refine g_iconst C dX4_octet_22 (by decide) (fun x22 e22 => ?_)
      exact g_iret C F dX4_octet_23 rfl (by rw [ti_inj (y := 0) e22]; rfl) (Nat.le_refl _) (Nat.le_refl _) (by exact ⟨_, _, rfl, Or.inr ⟨by omega, by omega, by omega⟩, rfl⟩)
set_option maxHeartbeats 1000000 in
set_option maxRecDepth 10000 in
theorem c_X4_isAny (l : Launch) (E : GE) (x : Int32)  : Ctr l E yX4_isAny cX4_isAny 1 (some .boolean) 0 (0) (0) [.int x] [] (oI (fun r => (r.toInt = 1 ∧ ((5 ≤ x.toInt ∧ x.toInt ≤ 9) ∨ (17 ≤ x.toInt ∧ x.toInt ≤ 19) ∨ x.toInt = 22 ∨ x.toInt = 23)) ∨ (r.toInt = 0 ∧ ¬ ((5 ≤ x.toInt ∧ x.toInt ≤ 9) ∨ (17 ≤ x.toInt ∧ x.toInt ≤ 19) ∨ x.toInt = 22 ∨ x.toInt = 23))) []) := by
  refine Ctr.intro (by decide) (Nat.le_of_ble_eq_true rfl) (fun g hgl hN C r F hi => ?_)
  subst hgl
  change G E g [] 0 0 0 [(0, .int x)] []
  refine g_iload_n C dX4_isAny_0 0 rfl ?_
  refine g_iconst C dX4_isAny_1 (by decide) (fun x1 e1 => ?_)
  refine g_icmp_lt C 11 dX4_isAny_2 (by decide) (fun c2 => ?_) (fun c2 => ?_)
  · refine g_iload_n C dX4_isAny_11 0 rfl ?_
    refine g_bipush C dX4_isAny_12 (by decide) (fun x12 e12 => ?_)
    refine g_icmp_lt C 23 dX4_isAny_14 (by decide) (fun c14 => ?_) (fun c14 => ?_)
    · refine g_iload_n C dX4_isAny_23 0 rfl ?_
      refine g_bipush C dX4_isAny_24 (by decide) (fun x24 e24 => ?_)
      refine g_icmp_eq C 35 dX4_isAny_26 (by decide) (fun c26 => ?_) (fun c26 => ?_)
      · refine g_iconst C dX4_isAny_35 (by decide) (fun x35 e35 => ?_)
        refine g_goto C 40 dX4_isAny_36 (by decide) ?_
        exact g_iret C F dX4_isAny_40 rfl (nz_b x35 (by omega)) (Nat.le_refl _) (Nat.le_refl _) (by exact ⟨_, rfl, by omega, rfl⟩)
      · refine g_iload_n C dX4_isAny_29 0 rfl ?_
        refine g_bipush C dX4_isAny_30 (by decide) (fun x30 e30 => ?_)
        refine g_icmp_ne C 39 dX4_isAny_32 (by decide) (fun c32 => ?_) (fun c32 => ?_)
        · refine g_iconst C dX4_isAny_39 (by decide) (fun x39 e39 => ?_)
          exact g_iret C F dX4_isAny_40 rfl (nz_b x39 (by omega)) (Nat.le_refl _) (Nat.le_refl _) (by exact ⟨_, rfl, by omega, rfl⟩)
        · refine g_iconst C dX4_isAny_35 (by decide) (fun x35 e35 => ?_)
          refine g_goto C 40 dX4_isAny_36 (by decide) ?_
          exact g_iret C F dX4_isAny_40 rfl (nz_b x35 (by omega)) (Nat.le_refl _) (Nat.le_refl _) (by exact ⟨_, rfl, by omega, rfl⟩)
    · refine g_iload_n C dX4_isAny_17 0 rfl ?_
      refine g_bipush C dX4_isAny_18 (by decide) (fun x18 e18 => ?_)
      refine g_icmp_le C 35 dX4_isAny_20 (by decide) (fun c20 => ?_) (fun c20 => ?_)
      · refine g_iconst C dX4_isAny_35 (by decide) (fun x35 e35 => ?_)
        refine g_goto C 40 dX4_isAny_36 (by decide) ?_
        exact g_iret C F dX4_isAny_40 rfl (nz_b x35 (by omega)) (Nat.le_refl _) (Nat.le_refl _) (by exact ⟨_, rfl, by omega, rfl⟩)
      · refine g_iload_n C dX4_isAny_23 0 rfl ?_
        refine g_bipush C dX4_isAny_24 (by decide) (fun x24 e24 => ?_)
        refine g_icmp_eq C 35 dX4_isAny_26 (by decide) (fun c26 => ?_) (fun c26 => ?_)
        · refine g_iconst C dX4_isAny_35 (by decide) (fun x35 e35 => ?_)
          refine g_goto C 40 dX4_isAny_36 (by decide) ?_
          exact g_iret C F dX4_isAny_40 rfl (nz_b x35 (by omega)) (Nat.le_refl _) (Nat.le_refl _) (by exact ⟨_, rfl, by omega, rfl⟩)
        · refine g_iload_n C dX4_isAny_29 0 rfl ?_
          refine g_bipush C dX4_isAny_30 (by decide) (fun x30 e30 => ?_)
          refine g_icmp_ne C 39 dX4_isAny_32 (by decide) (fun c32 => ?_) (fun c32 => ?_)
          · refine g_iconst C dX4_isAny_39 (by decide) (fun x39 e39 => ?_)
            exact g_iret C F dX4_isAny_40 rfl (nz_b x39 (by omega)) (Nat.le_refl _) (Nat.le_refl _) (by exact ⟨_, rfl, by omega, rfl⟩)
          · refine g_iconst C dX4_isAny_35 (by decide) (fun x35 e35 => ?_)
            refine g_goto C 40 dX4_isAny_36 (by decide) ?_
            exact g_iret C F dX4_isAny_40 rfl (nz_b x35 (by omega)) (Nat.le_refl _) (Nat.le_refl _) (by exact ⟨_, rfl, by omega, rfl⟩)
  · refine g_iload_n C dX4_isAny_5 0 rfl ?_
    refine g_bipush C dX4_isAny_6 (by decide) (fun x6 e6 => ?_)
    refine g_icmp_le C 35 dX4_isAny_8 (by decide) (fun c8 => ?_) (fun c8 => ?_)
    · refine g_iconst C dX4_isAny_35 (by decide) (fun x35 e35 => ?_)
      refine g_goto C 40 dX4_isAny_36 (by decide) ?_
      exact g_iret C F dX4_isAny_40 rfl (nz_b x35 (by omega)) (Nat.le_refl _) (Nat.le_refl _) (by exact ⟨_, rfl, by omega, rfl⟩)
    · refine g_iload_n C dX4_isAny_11 0 rfl ?_
      refine g_bipush C dX4_isAny_12 (by decide) (fun x12 e12 => ?_)
      refine g_icmp_lt C 23 dX4_isAny_14 (by decide) (fun c14 => ?_) (fun c14 => ?_)
      · refine g_iload_n C dX4_isAny_23 0 rfl ?_
        refine g_bipush C dX4_isAny_24 (by decide) (fun x24 e24 => ?_)
        refine g_icmp_eq C 35 dX4_isAny_26 (by decide) (fun c26 => ?_) (fun c26 => ?_)
        · refine g_iconst C dX4_isAny_35 (by decide) (fun x35 e35 => ?_)
          refine g_goto C 40 dX4_isAny_36 (by decide) ?_
          exact g_iret C F dX4_isAny_40 rfl (nz_b x35 (by omega)) (Nat.le_refl _) (Nat.le_refl _) (by exact ⟨_, rfl, by omega, rfl⟩)
        · refine g_iload_n C dX4_isAny_29 0 rfl ?_
          refine g_bipush C dX4_isAny_30 (by decide) (fun x30 e30 => ?_)
          refine g_icmp_ne C 39 dX4_isAny_32 (by decide) (fun c32 => ?_) (fun c32 => ?_)
          · refine g_iconst C dX4_isAny_39 (by decide) (fun x39 e39 => ?_)
            exact g_iret C F dX4_isAny_40 rfl (nz_b x39 (by omega)) (Nat.le_refl _) (Nat.le_refl _) (by exact ⟨_, rfl, by omega, rfl⟩)
          · refine g_iconst C dX4_isAny_35 (by decide) (fun x35 e35 => ?_)
            refine g_goto C 40 dX4_isAny_36 (by decide) ?_
            exact g_iret C F dX4_isAny_40 rfl (nz_b x35 (by omega)) (Nat.le_refl _) (Nat.le_refl _) (by exact ⟨_, rfl, by omega, rfl⟩)
      · refine g_iload_n C dX4_isAny_17 0 rfl ?_
        refine g_bipush C dX4_isAny_18 (by decide) (fun x18 e18 => ?_)
        refine g_icmp_le C 35 dX4_isAny_20 (by decide) (fun c20 => ?_) (fun c20 => ?_)
        · refine g_iconst C dX4_isAny_35 (by decide) (fun x35 e35 => ?_)
          refine g_goto C 40 dX4_isAny_36 (by decide) ?_
          exact g_iret C F dX4_isAny_40 rfl (nz_b x35 (by omega)) (Nat.le_refl _) (Nat.le_refl _) (by exact ⟨_, rfl, by omega, rfl⟩)
        · refine g_iload_n C dX4_isAny_23 0 rfl ?_
          refine g_bipush C dX4_isAny_24 (by decide) (fun x24 e24 => ?_)
          refine g_icmp_eq C 35 dX4_isAny_26 (by decide) (fun c26 => ?_) (fun c26 => ?_)
          · refine g_iconst C dX4_isAny_35 (by decide) (fun x35 e35 => ?_)
            refine g_goto C 40 dX4_isAny_36 (by decide) ?_
            exact g_iret C F dX4_isAny_40 rfl (nz_b x35 (by omega)) (Nat.le_refl _) (Nat.le_refl _) (by exact ⟨_, rfl, by omega, rfl⟩)
          · refine g_iload_n C dX4_isAny_29 0 rfl ?_
            refine g_bipush C dX4_isAny_30 (by decide) (fun x30 e30 => ?_)
            refine g_icmp_ne C 39 dX4_isAny_32 (by decide) (fun c32 => ?_) (fun c32 => ?_)
            · refine g_iconst C dX4_isAny_39 (by decide) (fun x39 e39 => ?_)
              exact g_iret C F dX4_isAny_40 rfl (nz_b x39 (by omega)) (Nat.le_refl _) (Nat.le_refl _) (by exact ⟨_, rfl, by omega, rfl⟩)
            · refine g_iconst C dX4_isAny_35 (by decide) (fun x35 e35 => ?_)
              refine g_goto C 40 dX4_isAny_36 (by decide) ?_
              exact g_iret C F dX4_isAny_40 rfl (nz_b x35 (by omega)) (Nat.le_refl _) (Nat.le_refl _) (by exact ⟨_, rfl, by omega, rfl⟩)
set_option maxHeartbeats 1000000 in
set_option maxRecDepth 10000 in
theorem c_X4_add (l : Launch) (E : GE) (m ib : Nat) (f : Nat → Int32) (t0 sz x : Int32) (S : Nat) (z3 z4 z5 z6 z7 z8 z9 z10 z11 z12 z13 z14 z15 : Value) (hS : sz.toInt = (S : Int)) (hSm : S ≤ 1500) : Ctr l E yX4_add cX4_add 2 none 0 (0) (0) [.ref m, .int x] [(m, .inr (6, [.int t0, .ref ib, .int sz, z3, z4, z5, z6, z7, z8, z9, z10, z11, z12, z13, z14, z15])), (ib, aB E (1500) (f))] (fun v w => v = none ∧ ∃ (t s : Int32) (f2 : Nat → Int32), t.toInt = 0 ∧ ((S < 1500 ∧ s.toInt = ((S + 1 : Nat) : Int) ∧ f2 = upd f S (sB (u8 x))) ∨ (¬ S < 1500 ∧ s = sz ∧ f2 = f)) ∧ w = [(m, .inr (6, [.int t, .ref ib, .int s, z3, z4, z5, z6, z7, z8, z9, z10, z11, z12, z13, z14, z15])), (ib, aB E (1500) (f2))]) := by
  refine Ctr.intro (by decide) (Nat.le_of_ble_eq_true rfl) (fun g hgl hN C r F hi => ?_)
  subst hgl
  change G E g [(m, .inr (6, [.int t0, .ref ib, .int sz, z3, z4, z5, z6, z7, z8, z9, z10, z11, z12, z13, z14, z15])), (ib, aB E (1500) (f))] 0 0 0 [(0, .ref m), (1, .int x)] []
  refine g_aload_n C dX4_add_0 0 rfl ?_
  refine g_iconst C dX4_add_1 (by decide) (fun x1 e1 => ?_)
  refine gp_X4_37 C 0 rfl (Nat.le_of_ble_eq_true rfl) rfl rfl dX4_add_2 ?_
  change G E g [(m, .inr (6, [.int x1, .ref ib, .int sz, z3, z4, z5, z6, z7, z8, z9, z10, z11, z12, z13, z14, z15])), (ib, aB E (1500) (f))] _ _ _ _ _
  refine g_aload_n C dX4_add_5 0 rfl ?_
  refine gf_X4_41 C 0 rfl rfl dX4_add_6 ?_
  refine g_sipush C dX4_add_9 (by decide) (fun x9 e9 => ?_)
  refine g_icmp_ge C 35 dX4_add_12 (by decide) (fun c12 => ?_) (fun c12 => ?_)
  · exact g_vret C F dX4_add_35 (Nat.le_refl _) (Nat.le_refl _) (by exact ⟨rfl, _, _, _, by omega, Or.inr ⟨by omega, rfl, rfl⟩, rfl⟩)
  · refine g_aload_n C dX4_add_15 0 rfl ?_
    refine gf_X4_7 C 0 rfl rfl dX4_add_16 ?_
    refine g_aload_n C dX4_add_19 0 rfl ?_
    refine gf_X4_41 C 0 rfl rfl dX4_add_20 ?_
    refine g_iload_n C dX4_add_23 1 rfl ?_
    refine g_bastore C 1 rfl dX4_add_24 (S) (by omega) (by omega) ?_
    change G E g [(m, .inr (6, [.int x1, .ref ib, .int sz, z3, z4, z5, z6, z7, z8, z9, z10, z11, z12, z13, z14, z15])), (ib, aB E (1500) (upd (f) (S) (sB (u8 x))))] _ _ _ _ _
    refine g_aload_n C dX4_add_25 0 rfl ?_
    refine g_dup C dX4_add_26 rfl ?_
    refine gf_X4_41 C 0 rfl rfl dX4_add_27 ?_
    refine g_iconst C dX4_add_30 (by decide) (fun x30 e30 => ?_)
    refine g_iadd C dX4_add_31 (by omega) (fun x31 e31 => ?_)
    refine gp_X4_41 C 0 rfl (Nat.le_of_ble_eq_true rfl) rfl rfl dX4_add_32 ?_
    change G E g [(m, .inr (6, [.int x1, .ref ib, .int x31, z3, z4, z5, z6, z7, z8, z9, z10, z11, z12, z13, z14, z15])), (ib, aB E (1500) (upd (f) (S) (sB (u8 x))))] _ _ _ _ _
    exact g_vret C F dX4_add_35 (Nat.le_refl _) (Nat.le_refl _) (by exact ⟨rfl, _, _, _, by omega, Or.inl ⟨by omega, by omega, rfl⟩, rfl⟩)
set_option maxHeartbeats 1000000 in
set_option maxRecDepth 10000 in
theorem c_X4_say (l : Launch) (E : GE) (m wb : Nat) (wf : Nat → Int32) (wz : Int32) (o : List Nat) (z0 z1 z2 z3 z4 z5 z6 z7 z8 z9 z10 z11 z12 z15 : Value) (x : Int32) (hwz : wz.toInt = (o.length : Int)) (hB : Bs wf 0 o) (hl : o.length < 115000) : Ctr l E yX4_say cX4_say 2 none 0 (0) (0) [.ref m, .int x] [(m, .inr (6, [z0, z1, z2, z3, z4, z5, z6, z7, z8, z9, z10, z11, z12, .ref wb, .int wz, z15])), (wb, aB E (115000) (wf))] (fun v w => v = none ∧ ∃ (f2 : Nat → Int32) (s : Int32), s.toInt = ((o ++ [u8 x]).length : Int) ∧ Bs f2 0 (o ++ [u8 x]) ∧ w = [(m, .inr (6, [z0, z1, z2, z3, z4, z5, z6, z7, z8, z9, z10, z11, z12, .ref wb, .int s, z15])), (wb, aB E (115000) (f2))]) := by
  refine Ctr.intro (by decide) (Nat.le_of_ble_eq_true rfl) (fun g hgl hN C r F hi => ?_)
  subst hgl
  change G E g [(m, .inr (6, [z0, z1, z2, z3, z4, z5, z6, z7, z8, z9, z10, z11, z12, .ref wb, .int wz, z15])), (wb, aB E (115000) (wf))] 0 0 0 [(0, .ref m), (1, .int x)] []
  refine g_aload_n C dX4_say_0 0 rfl ?_
  refine gf_X4_34 C 0 rfl rfl dX4_say_1 ?_
  refine g_aload_n C dX4_say_4 0 rfl ?_
  refine gf_X4_118 C 0 rfl rfl dX4_say_5 ?_
  refine g_iload_n C dX4_say_8 1 rfl ?_
  refine g_i2b C dX4_say_9 (fun x9 e9 => ?_)
  refine g_bastore C 1 rfl dX4_say_10 (0 + o.length) (by omega) (by omega) ?_
  change G E g [(m, .inr (6, [z0, z1, z2, z3, z4, z5, z6, z7, z8, z9, z10, z11, z12, .ref wb, .int wz, z15])), (wb, aB E (115000) (upd (wf) (0 + o.length) (sB (u8 x9))))] _ _ _ _ _
  refine g_aload_n C dX4_say_11 0 rfl ?_
  refine g_dup C dX4_say_12 rfl ?_
  refine gf_X4_118 C 0 rfl rfl dX4_say_13 ?_
  refine g_iconst C dX4_say_16 (by decide) (fun x16 e16 => ?_)
  refine g_iadd C dX4_say_17 (by omega) (fun x17 e17 => ?_)
  refine gp_X4_118 C 0 rfl (Nat.le_of_ble_eq_true rfl) rfl rfl dX4_say_18 ?_
  change G E g [(m, .inr (6, [z0, z1, z2, z3, z4, z5, z6, z7, z8, z9, z10, z11, z12, .ref wb, .int x17, z15])), (wb, aB E (115000) (upd (wf) (0 + o.length) (sB (u8 x9))))] _ _ _ _ _
  exact g_vret C F dX4_say_21 (Nat.le_refl _) (Nat.le_refl _) (by exact ⟨rfl, _, _, by simp; omega, by rw [e9, sB_u8_sB]; exact Bs_snoc hB (u8 x), rfl⟩)
set_option maxHeartbeats 1000000 in
set_option maxRecDepth 10000 in
theorem c_X4_sayNumber (l : Launch) (E : GE) (m wb : Nat) (wf : Nat → Int32) (wz : Int32) (o : List Nat) (z0 z1 z2 z3 z4 z5 z6 z7 z8 z9 z10 z11 z12 z15 : Value) (x y : Int32) (nv k : Nat) (hwz : wz.toInt = (o.length : Int)) (hB : Bs wf 0 o) (hx : x.toInt = (nv : Int)) (hy : y.toInt = (k : Int)) (hk : 1 ≤ k ∧ k ≤ 5) (hl : o.length + k ≤ 115000) : Ctr l E yX4_sayNumber cX4_sayNumber 5 none 1 (0) (0) [.ref m, .int x, .int y] [(m, .inr (6, [z0, z1, z2, z3, z4, z5, z6, z7, z8, z9, z10, z11, z12, .ref wb, .int wz, z15])), (wb, aB E (115000) (wf))] (fun v w => v = none ∧ ∃ (f2 : Nat → Int32) (s : Int32), s.toInt = ((o ++ dg nv k).length : Int) ∧ Bs f2 0 (o ++ dg nv k) ∧ w = [(m, .inr (6, [z0, z1, z2, z3, z4, z5, z6, z7, z8, z9, z10, z11, z12, .ref wb, .int s, z15])), (wb, aB E (115000) (f2))]) := by
  refine Ctr.intro (by decide) (Nat.le_of_ble_eq_true rfl) (fun g hgl hN C r F hi => ?_)
  subst hgl
  change G E g [(m, .inr (6, [z0, z1, z2, z3, z4, z5, z6, z7, z8, z9, z10, z11, z12, .ref wb, .int wz, z15])), (wb, aB E (115000) (wf))] 0 0 0 [(0, .ref m), (1, .int x), (2, .int y)] []
  refine g_iconst C dX4_sayNumber_0 (by decide) (fun x0 e0 => ?_)
  refine g_istore_n C dX4_sayNumber_1 (by rw [hN]; decide) (lv' := [(3, .int x0), (0, .ref m), (1, .int x), (2, .int y)]) rfl ?_
  refine g_iconst C dX4_sayNumber_2 (by decide) (fun x2 e2 => ?_)
  refine g_istore C dX4_sayNumber_3 (by rw [hN]; decide) (lv' := [(4, .int x2), (3, .int x0), (0, .ref m), (1, .int x), (2, .int y)]) rfl ?_
  have loop5 : ∀ (nn : Nat) (n3 : Int32) (n4 : Int32) (i : Nat) (hm : k - i < nn) (hi : 1 ≤ i ∧ i ≤ k) (h4 : n4.toInt = (i : Int)) (h3 : n3.toInt = (p10 (i - 1) : Int)), G E g [(m, .inr (6, [z0, z1, z2, z3, z4, z5, z6, z7, z8, z9, z10, z11, z12, .ref wb, .int wz, z15])), (wb, aB E (115000) (wf))] 0 0 5 [(0, .ref m), (1, .int x), (2, .int y), (3, .int n3), (4, .int n4)] [] := by
    intro nn
    induction nn with
    | zero => intro n3 n4 i hm hi h4 h3; omega
    | succ nn ih5 =>
      intro n3 n4 i hm hi h4 h3
      have hp := p10_le (j := i - 1) (by omega)
      refine g_iload C dX4_sayNumber_5 4 rfl ?_
      refine g_iload_n C dX4_sayNumber_7 2 rfl ?_
      refine g_icmp_ge C 22 dX4_sayNumber_8 (by decide) (fun c8 => ?_) (fun c8 => ?_)
      · refine g_iload_n C dX4_sayNumber_22 3 rfl ?_
        refine g_istore C dX4_sayNumber_23 (by rw [hN]; decide) (lv' := [(4, .int n3), (0, .ref m), (1, .int x), (2, .int y), (3, .int n3)]) rfl ?_
        have loop25 : ∀ (nn : Nat) (q4 : Int32) (fk : Nat → Int32) (zk : Int32) (ok : List Nat) (j : Nat) (hm : j < nn) (hj : j ≤ k) (hq4 : (j = 0 ∧ q4.toInt = 0) ∨ (1 ≤ j ∧ q4.toInt = (p10 (j - 1) : Int))) (hzk : zk.toInt = (ok.length : Int)) (hbk : Bs fk 0 ok) (hok : ok ++ dg nv j = o ++ dg nv k), G E g [(m, .inr (6, [z0, z1, z2, z3, z4, z5, z6, z7, z8, z9, z10, z11, z12, .ref wb, .int zk, z15])), (wb, aB E (115000) (fk))] 0 0 25 [(0, .ref m), (1, .int x), (2, .int y), (3, .int n3), (4, .int q4)] [] := by
          intro nn
          induction nn with
          | zero => intro q4 fk zk ok j hm hj hq4 hzk hbk hok; omega
          | succ nn ih25 =>
            intro q4 fk zk ok j hm hj hq4 hzk hbk hok
            have hpos := p10_pos (j - 1)
            refine g_iload C dX4_sayNumber_25 4 rfl ?_
            refine g_if_le C 54 dX4_sayNumber_27 (by decide) (fun c27 => ?_) (fun c27 => ?_)
            · exact g_vret C F dX4_sayNumber_54 (Nat.le_refl _) (Nat.le_refl _) (by have hz := sn_end (by omega) hok; subst hz; exact ⟨rfl, _, _, hzk, hbk, rfl⟩)
            · obtain ⟨hj1, hq9⟩ : 1 ≤ j ∧ q4.toInt = (p10 (j - 1) : Int) := by omega
              have hlen := sn_len hok
              have hpl := p10_le (j := j - 1) (by omega)
              refine g_aload_n C dX4_sayNumber_30 0 rfl ?_
              refine g_bipush C dX4_sayNumber_31 (by decide) (fun x31 e31 => ?_)
              refine g_iload_n C dX4_sayNumber_33 1 rfl ?_
              refine g_iload C dX4_sayNumber_34 4 rfl ?_
              refine g_idiv C dX4_sayNumber_36 ((p10 (j - 1) : Int)) (hq9) (⟨by omega, by omega⟩) (fun x36 e36 => ?_)
              refine g_bipush C dX4_sayNumber_37 (by decide) (fun x37 e37 => ?_)
              refine g_irem C dX4_sayNumber_39 (10) (e37) (⟨by rw [sn_div hx e36]; exact Int.natCast_nonneg _, by omega⟩) (fun x39 e39 => ?_)
              refine g_iadd C dX4_sayNumber_40 (by omega) (fun x40 e40 => ?_)
              refine g_callV C r mv_X4_121 dX4_sayNumber_41 (c_X4_say g.l E m wb fk zk ok z0 z1 z2 z3 z4 z5 z6 z7 z8 z9 z10 z11 z12 z15 x40 hzk hbk (by omega)) (wr := []) (As := [.int x40]) (rest := []) (Spl.at [] [0, 1] rfl rfl rfl) 0 rfl rfl rfl rfl (Nat.le_of_ble_eq_true rfl) (by decide) (Nat.le_refl _) (Nat.le_refl _) (fun v w h => ?_)
              obtain ⟨rfl, f41, s41, es41, eb41, rfl⟩ := h
              change G E g [(m, .inr (6, [z0, z1, z2, z3, z4, z5, z6, z7, z8, z9, z10, z11, z12, .ref wb, .int s41, z15])), (wb, aB E (115000) (f41))] _ _ _ _ []
              refine g_iload C dX4_sayNumber_44 4 rfl ?_
              refine g_bipush C dX4_sayNumber_46 (by decide) (fun x46 e46 => ?_)
              refine g_idiv C dX4_sayNumber_48 (10) (e46) (by omega) (fun x48 e48 => ?_)
              refine g_istore C dX4_sayNumber_49 (by rw [hN]; decide) (lv' := [(4, .int x48), (0, .ref m), (1, .int x), (2, .int y), (3, .int n3)]) rfl ?_
              refine g_goto C 25 dX4_sayNumber_51 (by decide) ?_
              refine g_lv [1, 2, 3, 4, 0] (lv' := [(0, .ref m), (1, .int x), (2, .int y), (3, .int n3), (4, .int x48)]) rfl ?_
              exact ih25 (x48) (f41) (s41) (ok ++ [u8 x40]) (j - 1) (by omega) (by omega) (by exact sn_q hj1 hq9 e48) (by exact es41) (by exact eb41) (by rw [← hok, sn_hd hj1, sn_dig (sn_div hx e36) e39 (by omega)]; simp)
        refine g_lv [1, 2, 3, 4, 0] (lv' := [(0, .ref m), (1, .int x), (2, .int y), (3, .int n3), (4, .int n3)]) rfl ?_
        exact loop25 _ (n3) (wf) (wz) (o) (k) (Nat.lt_succ_self _) (by omega) (by exact Or.inr ⟨by omega, by rw [h3, show i = k by omega]⟩) (by exact hwz) (by exact hB) (by rfl)
      · refine g_bipush C dX4_sayNumber_11 (by decide) (fun x11 e11 => ?_)
        refine g_iload_n C dX4_sayNumber_13 3 rfl ?_
        refine g_imul C dX4_sayNumber_14 (10 * n3.toInt) (by rw [e11]) (by omega) (fun x14 e14 => ?_)
        refine g_istore_n C dX4_sayNumber_15 (by rw [hN]; decide) (lv' := [(3, .int x14), (0, .ref m), (1, .int x), (2, .int y), (4, .int n4)]) rfl ?_
        refine g_iinc C dX4_sayNumber_16 4 rfl (by rw [hN]; decide) (by decide) (by omega) (fun x16 e16 => ?_)
        refine g_lvE (lv' := [(4, .int x16), (3, .int x14), (0, .ref m), (1, .int x), (2, .int y)]) rfl ?_
        refine g_goto C 5 dX4_sayNumber_19 (by decide) ?_
        refine g_lv [2, 3, 4, 1, 0] (lv' := [(0, .ref m), (1, .int x), (2, .int y), (3, .int x14), (4, .int x16)]) rfl ?_
        exact ih5 (x14) (x16) (i + 1) (by omega) (by omega) (by omega) (by rw [p10_1 hi.1, e14, h3]; omega)
  refine g_lv [2, 3, 4, 1, 0] (lv' := [(0, .ref m), (1, .int x), (2, .int y), (3, .int x0), (4, .int x2)]) rfl ?_
  exact loop5 _ (x0) (x2) (1) (Nat.lt_succ_self _) (by omega) (by omega) (by rw [e0]; rfl)
end
