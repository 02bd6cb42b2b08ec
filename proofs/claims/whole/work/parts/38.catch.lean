/-! a throw of a callee, caught here: the table has one row -/
theorem kc_find {e : Env} {s : State} {f : JFrame} {a : Addr} {meth : Method} {code : Code} (hm : s.vm.method? f.method = some meth) (hc : meth.code = some code) (x : ExceptionTableEntry) (htab : code.exceptionTable.toList = [x]) (hx : covers x f.pc = true) (h0 : x.catchType ≠ 0) {k : ClassId} {cell : Cell}
    (hl : s.vm.ClassLinks e.platform f.method.cls x.catchType k) (hcell : s.heap[a]? = some cell) (hobj : ∀ z, cell.vm ≠ .statics z) (hk : ∃ z, s.vm.classes[cell.cls]? = some z) (hcl : ∃ z, s.vm.classes[k]? = some z) (hfit : s.vm.assignable cell.cls k = true)
    (Q : Handler → Pre) (Ep : CtlPost) (d : Bool) (acts : List Action) : wp (findHandler f a) Q Ep e d acts s ↔ Q (.found x.handlerPc) d acts (s.setVm (s.vm.noted f.method.cls x.catchType (.cls k))) := by
  rw [W.findHandler_eq hm hc, htab]
  simp only [covers] at hx
  obtain ⟨ha, ht⟩ := (resolveClass_links e.toSetting hl).op (op := VmOp.resolveClass f.method.cls x.catchType) rfl
  have hal : s.vm.Alike (s.vm.noted f.method.cls x.catchType (.cls k)) := (Vm.Alike.refl s.vm).noted _ _ _
  obtain ⟨k1, hk1⟩ := hk
  obtain ⟨k2, hk2⟩ := hcl
  obtain ⟨k1', hk1', -⟩ := hal.2.2 _ _ hk1
  obtain ⟨k2', hk2', -⟩ := hal.2.2 _ _ hk2
  have hfit' : (s.vm.noted f.method.cls x.catchType (.cls k)).assignable cell.cls k = true := by rw [hal.assignable]; exact hfit
  simp [findHandler.go, hx, h0, ha, ht, hcell, hobj, hk1', hk2', hfit', VmOp.dirties, VmOp.acts]
theorem kc_steps {tb : Tables} {e : Env} {s : State} {g : JFrame} {c : Code} {below : List Frame} {a : Addr} (h : At s g.method c below) {pc : Nat} {vm' : Vm}
    (hf : ∀ (Q : Handler → Pre) (Ep : CtlPost) (d : Bool) (acts : List Action), wp (findHandler g a) Q Ep e d acts ((s.setTop g).pushFrame (.throwing a)) ↔ Q (.found pc) d acts (((s.setTop g).pushFrame (.throwing a)).setVm vm')) :
    Steps tb e below ((s.setTop g).pushFrame (.throwing a)) ((s.setVm vm').setTop { g with pc := pc, stack := [.ref a] }) := by
  have key : (stepThrowing e ((s.setTop g).pushFrame (.throwing a)) a (.java g :: s.frames.tail)).Is ((((s.setTop g).pushFrame (.throwing a)).setVm vm').setFrames (.java { g with pc := pc, stack := [.ref a] } :: s.frames.tail)) [] := by
    simp only [stepThrowing, searchFrame, vmDo]
    generalize hr : Sem.go _ e false [] ((s.setTop g).pushFrame (.throwing a)) = res
    obtain ⟨as, rfl, ha⟩ := Sem.eq_ok_of hr (a := Handler.found pc) (s' := ((s.setTop g).pushFrame (.throwing a)).setVm vm') (acts' := []) (by simp [hf _ _ _ _])
    exact ⟨rfl, ha⟩
  obtain ⟨hgo, hw⟩ := h.throwing a
  refine Steps.head hgo hw ?_
  rw [stepThread_throwing (frames_entered h.top _), key.1]
  obtain ⟨g₀, hg⟩ := Option.isSome_iff_exists.mp h.top
  obtain ⟨r, hr⟩ := State.topJava?_eq_some.mp hg
  have hr' : (s.setVm vm').frames = .java g₀ :: r := hr
  have e1 : ∀ (u : State) (F F2 : List Frame), ((u.setFrames F).setVm vm').setFrames F2 = (u.setVm vm').setFrames F2 := fun u F F2 => by
    show (((u.setVm vm').setFrames F)).setFrames F2 = _
    rw [State.setFrames_setFrames]
  rw [State.setTop_of_frames _ hr', hr, List.tail_cons, State.pushFrame, e1, State.setTop_of_frames _ hr, e1]
  exact Steps.refl _
theorem kc_catch {p : Program} {l : Launch} {e : Env} {R : Room} {s : State} {m : MethodId} {args : Array Value} {below : List Frame} {meth : Method} {c : Code} {T : State} {locs : List Loc} {cells slots : Nat} (X : Stand p l e R s m args below meth c T locs cells slots) (q : Addr) {pc : Nat} {ls : Array Slot} {rest : List Value} {own name Ex : String} {ce : Cell}
    (hown : s.vm.findClass own = some m.cls) (x : ExceptionTableEntry) (htab : c.exceptionTable.toList = [x]) (hx : covers x pc = true) (h0 : x.catchType ≠ 0) (hlink : (Cond.classLink own x.catchType name).before args s = true) (hcast : (Cond.castable Ex name).before args s = true) (hcell : T.heap[q]? = some ce) (hv : ce.vm = .none) (hcl : s.vm.findClass Ex = some ce.cls) :
    ∃ vm', Stand p l e R s m args below meth c (T.setVm vm') locs cells slots ∧ Steps p.tables e below ((T.setTop (F0 m pc ls rest)).pushFrame (.throwing q)) ((T.setVm vm').setTop (F0 m x.handlerPc ls [.ref q])) := by
  have hpl : e.platform.magicAccessors = ({} : Platform).magicAccessors := by rw [X.admits.platform]
  obtain ⟨c3, c4, hc3, hc4, hasg⟩ := Cond.castable_spec hcast
  cases Option.some.inj (hc3.symm.trans hcl)
  obtain ⟨c5, hc5, hcl5⟩ := Cond.classLink_spec hown hlink e.platform hpl
  cases Option.some.inj (hc4.symm.trans hc5)
  obtain ⟨dk, _, _, kt, hd, _, _, _, _, hkt, _, hopen⟩ := hcl5.here
  have hW' : s.WarmedH (T.vm.noted m.cls x.catchType (.cls c4)) := X.warmed.noted hd hopen (State.rightAt_cls hcl5)
  have hal := X.warmed.alike
  obtain ⟨kt', hkt', -⟩ := hal.2.2 _ _ hkt
  have hfit' : T.vm.assignable ce.cls c4 = true := by rw [hal.assignable]; exact hasg
  refine ⟨_, X.noted hW', ?_⟩
  exact kc_steps (g := F0 m pc ls rest) X.here (fun Q Ep d acts => kc_find (f := F0 m pc ls rest) (s := (T.setTop (F0 m pc ls rest)).pushFrame (.throwing q)) (meth := meth) (code := c) X.method' X.code x htab hx h0 (k := c4) (cell := ce) (X.warmed.classLinks hcl5) hcell (VmData.ne_statics_of (by rw [hv]; rfl)) (Vm.classAt_of_assignable hfit' ⟨kt', hkt'⟩) ⟨kt', hkt'⟩ hfit' Q Ep d acts)
theorem TW.calling {U : State} {g : JFrame} {mk : MethodId} {a : Array Value} (h : TW U) : TW (U.calling g mk a) := by
  obtain ⟨a1, a2, a3, a4, a5, ⟨x, a6⟩, ⟨y, a7⟩⟩ := h
  exact ⟨va_Nw.same rfl rfl a1, va_Nw.same rfl rfl a2, va_Nw.same rfl rfl a3, va_Nw.same rfl rfl a4, va_Nw.same rfl rfl a5, ⟨x, vk_R.same rfl a6⟩, ⟨y, vk_R.same rfl a7⟩⟩
theorem TH.calling {A : Nat → Prop} {U : State} {g : JFrame} {mk : MethodId} {a : Array Value} (h : TH A U U.heap) : TH A (U.calling g mk a) (U.calling g mk a).heap :=
  ⟨vx_Zq.moved (u := U) (U := U.calling g mk a) (Vm.Alike.refl U.vm) h.1, vx_Zq.moved (u := U) (U := U.calling g mk a) (Vm.Alike.refl U.vm) h.2.1, h.2.2.calling⟩
theorem fb_T {E : GE} {av : List Value} {ws : va_W} {sz : Nat} : FrameBlind (PcT E av ws sz) := fun _ _ _ _ h => ⟨h.1, h.2.1, h.2.2.1, h.2.2.2.1.calling, h.2.2.2.2.1, h.2.2.2.2.2.calling⟩
theorem A_sub {E : GE} {g : Cf} {cc : ByteArray} {own : String} {ret : Option FieldType} (C : Cx E g cc own ret) {wr wc : va_W} {H : Heap} {locs : List Loc} (hDD : va_D g.A (wr ++ wc)) (hS : va_S g.A g.s.heap H locs) : ∀ q, va_A wc H.size q → g.A q := by
  intro q hq
  rcases hq with ⟨k, e, hq⟩ | hq
  · exact hDD.right.2 k _ hq
  · exact C.2.2.2.2.2.2.2.2 q (Nat.le_trans hS.1 hq)
section GX
variable {E : GE} {g : Cf} {cc : ByteArray} {own : String} {ret : Option FieldType} {ws wr wc : va_W} {cells slots pc : Nat} {lv : List (Nat × Value)} {st0 rest : List Value}
variable {y : MethodName} {yc : ByteArray} {nL index n D mcT msT d mc ms : Nat} {ry : Option FieldType} {post : Option Value → va_W → Prop} {b : Nat} {As : List Value}
/-- a call that throws, caught by the one row of the table -/
theorem g_callX (C : Cx E g cc own ret) (r : RF g D mcT msT) (hT : TH g.A g.s g.s.heap) (mv : MV own index y yc nL ry n) (dd : decode cc pc = .ok (.invokevirtual index, 3)) (hM : CtrX g.l E y yc nL ry d (.ref b :: As) wc) (sp : Spl ws wr wc) (q0 : Nat) {ci : Nat} {q : vw_C} {fs : List Value} (he : wc[q0]? = some (b, .inr (ci, fs))) (hc : vwCl[ci]? = some q) (hq : q.1 = y.cls) (hn : As.length = n) (hst : (rest.map fun v => v.category).sum ≤ 8) (hd : d + 1 ≤ D) (h1 : cells + 1 ≤ mcT) (h2 : slots + 6 ≤ msT)
    (x : ExceptionTableEntry) (htab : g.c.exceptionTable.toList = [x]) (hx : covers x pc = true) (h0 : x.catchType ≠ 0) (hlink : Cond.classLink own x.catchType XN ∈ GW)
    (kk : ∀ z : Nat, G E g (wr ++ wc) (cells + 1) (slots + 6) x.handlerPc lv [.ref z]) : G E g ws cells slots pc lv (As.reverse ++ .ref b :: rest) := by
  obtain ⟨k1, k2, k3, k4, k5, k6, k7⟩ := mv
  intro H locs ls hl hP hD hS T hT0 X
  obtain ⟨hPr, hPc⟩ := sp.1 _ _ _ hP
  have hDD := sp.2 _ hD
  have hF := A_sub C hDD hS
  have hr := vx_runV (Ts := GW) (own := own) (As := As) (C := y.cls) (bytes := yc) (maxL := nL) (ret := ry) (n := n) (b := b) (rest := rest) (g := F0 g.m pc ls (As.reverse ++ .ref b :: rest)) (e := g.e) (below := g.b) (meth := g.me) (H := H) (locs := locs) (cells := cells) (slots := slots) ⟨C.1, C.2.1, C.2.2.1, C.2.2.2.1, C.2.2.2.2.1⟩ (hM H.size) ⟨callB_of n C.2.2.2.2.1 (gi_c k5) rfl rfl rfl (C.wd k4) (C.wd k1) k6 ⟨by show d + 1 ≤ _; have := r.1; omega, by show 8 + (nL + 11) + 40 * d ≤ _; have := r.2.2.2; omega⟩, C.wd k2, C.wd k3⟩
    ⟨fb_T, by have := va_recv C.2.2.2.2.2.1.1 hPc hc he; rw [hq] at this; exact this, fun U hU hW => ⟨rfl, by rw [hU], by rw [hU]; exact hPc, C.2.2.2.2.2.1.moved hW, hDD.right.weaken (fun _ _ _ _ => trivial), by rw [hU]; exact hT.to hS hW hF⟩⟩ rfl hn hl.1 rfl (lv_room hst) dd ⟨Nat.le_trans h1 r.2.1, Nat.le_trans h2 r.2.2.1⟩
  rcases hr T hT0 X with ⟨v, st₀, t, T', L, h0', X', hL, e1, e2, hFalse, _⟩ | ⟨z, st₀, t, T', L, Ex, ce, h0', X', hL, e1, e2, hXC, hce, hcv, hcl, stp⟩
  · exact hFalse.elim
  · obtain ⟨rfl, hP1, hz, hk⟩ := hXC
    rw [h0'] at hz hk
    have apart : ∀ (k : Nat) (q : Nat × va_E), wr[k]? = some q → q.1 < H.size ∧ ¬ va_A wc H.size q.1 := by
      intro k q hq
      have hlt := (hPr k q hq).lt
      refine ⟨hlt, fun h => ?_⟩
      rcases h with ⟨k2, e, h⟩ | h
      · exact hDD.cross hq h rfl
      · omega
    have hPn : va_P E.1 vwCl (wr ++ wc) T'.heap := va_P.app (fun k q hq => (hPr k q hq).kept (by rw [e1]; exact hk q.1 (apart k q hq).1 (apart k q hq).2)) (by rw [e1]; exact hP1)
    obtain ⟨vm', X2, st2⟩ := kc_catch X' z (pc := pc) (ls := ls) (rest := rest) (own := own) (name := XN) (Ex := XN) C.2.2.2.1 x htab hx h0 (C.wd hlink) (va_Nw.use rfl hT.2.2.2.2.2.2.1) (by rw [e1]; exact hce) hcv hcl
    obtain ⟨t2, a1, b1⟩ := kk z T'.heap (locs ++ L) ls hl hPn hDD
      ⟨Nat.le_trans hS.1 (by rw [e1]; exact hz), fun q h1 h2 => by rw [e1, hk q (Nat.lt_of_lt_of_le h1 hS.1) (fun z => h2 (hF q z))]; exact hS.2.1 q h1 h2, fun q hq => by
        rcases List.mem_append.mp hq with h | h
        · exact hS.2.2 q h
        · exact hF _ (hL q h)⟩ (T'.setVm vm') rfl X2
    exact ⟨t2, stp.trans (st2.trans a1), b1⟩
/-- a contract of a method with a table -/
def CtrW (l : Launch) (E : GE) (y : MethodName) (cc : ByteArray) (nL : Nat) (ret : Option FieldType) (hh : List (Nat × Nat × Nat × Nat)) (d mc ms : Nat) (av : List Value) (ws : va_W) (post : Option Value → va_W → Prop) : Prop :=
  ∀ sz : Nat, Met l y (.codeWith y cc nL ret hh :: GW) (rmD d mc ms) (PcT E av ws sz) (Qs E post ws sz) mc ms (va_A ws sz)
theorem CtrW.intro {l : Launch} {av : List Value} {nL : Nat} {hh : List (Nat × Nat × Nat × Nat)}
    (hy : plainName y.cls = true) (hn : (lg_sl av).length ≤ nL)
    (body : ∀ g : Cf, g.l = l → g.n = nL → Cx E g cc y.cls ret → RF g d mc ms → Fi E g post ws mc ms → TH g.A g.s g.s.heap → g.c.exceptionTable.toList = tableOf hh → G E g ws 0 0 0 (lv_args 0 av) []) : CtrW l E y cc nL ret hh d mc ms av ws post := by
  intro sz
  refine MetFree.of_bodyS (code := cc) (maxLocals := nL) (ret := ret) hy ?_ ?_
  · intro args s m h hn
    obtain ⟨m9, meth, c, hn9, h1, h2, h3, h4, -, h5, h6, -⟩ := Cond.codeWith_spec (atoms_spec (ws := .codeWith y cc nL ret hh :: GW) h _ List.mem_cons_self)
    cases hn.symm.trans hn9
    exact ⟨meth, c, h1, h2, h3, h4, h5, h6⟩
  · intro p e s m args below meth c s₁ B hml hv _
    have hh0 : s₁.heap = s.heap := by rw [B.state]; rfl
    obtain ⟨rfl, hsz, hP, hK, hD0, hT⟩ := hv
    subst hsz
    have hts : ∀ w ∈ GW, w.before av.toArray s = true := fun w h => atoms_spec (ws := .codeWith y cc nL ret hh :: GW) B.pre w (List.mem_cons_of_mem _ h)
    have htb := vx_table (l := l) (x := y) B (atoms_spec (ws := .codeWith y cc nL ret hh :: GW) B.pre _ List.mem_cons_self)
    have hl2 := lv_entry av (n := nL) hn
    have K := body (p, l, e, rmD d mc ms, s, m, av.toArray, below, meth, c, nL, va_A ws s.heap.size, MQ below (Qs E post ws s.heap.size) av.toArray s mc ms (va_A ws s.heap.size)) rfl rfl
      ⟨B.exec, B.bytes, hml, findClass_of_methodNamed B.named, hts, hK, B.returns, B.notSynchronized, fun q h => Or.inr h⟩ ⟨Nat.le_refl _, Nat.le_refl _, Nat.le_refl _, Nat.le_refl _⟩ ⟨rfl, rfl⟩ hT htb s.heap [] _ hl2 hP (hD0.self) va_S.rf
    have K2 : W p l e (rmD d mc ms) s m av.toArray below meth c s.heap [] 0 0 (MQ below (Qs E post ws s.heap.size) av.toArray s mc ms (va_A ws s.heap.size)) (entryFrame m av.toArray nL) := by
      rw [lg_entry_eq]; exact K
    obtain ⟨t, a1, o, b1, b2, b3⟩ := K2 s₁ hh0 (Stand.of_body B)
    exact ⟨t, o, a1, b1, b2, ⟨b3.1, b3.2⟩⟩
end GX
