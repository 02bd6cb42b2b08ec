/-! what a throw of the class asks -/
abbrev XN : String := "java/lang/ArrayIndexOutOfBoundsException"
abbrev xnm : List String := ["java/lang/IndexOutOfBoundsException", "java/lang/RuntimeException", "java/lang/Exception"]
abbrev xbad : List Cond := [.declares ⟨"java/lang/IndexOutOfBoundsException", "<init>", "(Ljava/lang/String;)V"⟩, .declares ⟨"java/lang/RuntimeException", "<init>", "(Ljava/lang/String;)V"⟩, .declares ⟨"java/lang/Exception", "<init>", "(Ljava/lang/String;)V"⟩, .declares ⟨"java/lang/Throwable", "<init>", "(Ljava/lang/String;)V"⟩, .castable XN XN]
def TW (U : State) : Prop := va_Nw (.declares ⟨"java/lang/IndexOutOfBoundsException", "<init>", "(Ljava/lang/String;)V"⟩) U ∧ va_Nw (.declares ⟨"java/lang/RuntimeException", "<init>", "(Ljava/lang/String;)V"⟩) U ∧ va_Nw (.declares ⟨"java/lang/Exception", "<init>", "(Ljava/lang/String;)V"⟩) U ∧ va_Nw (.declares ⟨"java/lang/Throwable", "<init>", "(Ljava/lang/String;)V"⟩) U ∧ va_Nw (.castable XN XN) U ∧ (∃ sa, vk_R RX3 106 "no such row of the directory" sa U) ∧ ∃ sa, vk_R RX3 161 "no such byte was written" sa U
theorem TW.warm {s U : State} (hW : s.WarmedH U.vm) (h : TW s) : TW U := by
  obtain ⟨a1, a2, a3, a4, a5, ⟨x, a6⟩, ⟨y, a7⟩⟩ := h
  exact ⟨va_Nw.warmD hW a1, va_Nw.warmD hW a2, va_Nw.warmD hW a3, va_Nw.warmD hW a4, va_Nw.warmC hW a5, ⟨x, vk_R.warm hW a6⟩, ⟨y, vk_R.warm hW a7⟩⟩
def TH (A : Nat → Prop) (U : State) (H : Heap) : Prop := vx_Zq Bundle.tN "UNASSIGNED_STACK" Bundle.steD A U H ∧ vx_Zq Bundle.tN "SUPPRESSED_SENTINEL" Bundle.listD A U H ∧ TW U
theorem TH.to {A B : Nat → Prop} {s U : State} {H : Heap} {locs : List Loc} (h : TH A s s.heap) (hS : va_S A s.heap H locs) (hW : s.WarmedH U.vm) (hAB : ∀ q, B q → A q) : TH B U H :=
  ⟨(vx_Zq.moved hW.alike (h.1.kept hS.2.1)).narrow hAB, (vx_Zq.moved hW.alike (h.2.1.kept hS.2.1)).narrow hAB, h.2.2.warm hW⟩
theorem xat_in : ∀ w ∈ (vx_atS RX3 108 XN xnm).filter goodWord, w ∈ GW := by decide +kernel
theorem xat_bad : ∀ w ∈ (vx_atS RX3 108 XN xnm).filter (fun w => !goodWord w), w ∈ xbad := by decide +kernel
theorem xat_ot : ∀ w ∈ Cond.classLink RX3 104 XN :: Cond.initialized XN :: vx_atS RX3 108 XN xnm, vx_ot w = true := by decide +kernel
theorem xat_all {args : Array Value} {s : State} (hG : ∀ w ∈ GW, w.before args s = true) (h : TW s) : ∀ w ∈ vx_atS RX3 108 XN xnm, w.before args s = true :=
  vx_hat (fun w hw => hG w (xat_in w hw)) xat_bad (vx_c (va_Nw.use rfl h.1) (vx_c (va_Nw.use rfl h.2.1) (vx_c (va_Nw.use rfl h.2.2.1) (vx_c (va_Nw.use rfl h.2.2.2.1) (vx_c (va_Nw.use rfl h.2.2.2.2.1) vx_n)))))
theorem fit_X : Bundle.fit XN = true := by decide +kernel
theorem fit_n : ∀ n ∈ xnm, Bundle.fit n = true := by decide +kernel
/-- 'throw new ArrayIndexOutOfBoundsException("text")' of the class, which nobody catches here -/
theorem g_throwS {E : GE} {g : Cf} {cc : ByteArray} {ret : Option FieldType} {ws : va_W} {cells slots pc : Nat} {lv : List (Nat × Value)} {st : List Value} (C : Cx E g cc RX3 ret) {d mc ms : Nat} (r : RF g d mc ms) (h7 : 7 ≤ d) (hl : g.l.stackTraces = false) (hT : TH g.A g.s g.s.heap) {is : Nat} {text : String} (hstr : ∃ sa, vk_R RX3 is text sa g.s)
    {Qc : Array Value → State → Outcome → State → Prop} {XC : String → State → State → Prop} (hQ : g.Q = vx_MQ g.b Qc XC g.a g.s mc ms g.A)
    (d0 : decode cc pc = .ok (.new 104, 3)) (d3 : decode cc (pc + 3) = .ok (.dup, 1)) (d4 : decode cc (pc + 4) = .ok (.ldc is, 2)) (d6 : decode cc (pc + 6) = .ok (.invokespecial 108, 3)) (d9 : decode cc (pc + 9) = .ok (.athrow, 1))
    (hout : ∀ x ∈ g.c.exceptionTable.toList, False) (hst : (st.map fun v => v.category).sum ≤ 8)
    (hx : ∀ t : State, va_P E.1 vwCl ws t.heap → va_F g.A g.s t → XC XN g.s t) (hc : cells + 1 ≤ mc) (hs : slots + 6 ≤ ms) : G E g ws cells slots pc lv st := by
  intro H locs ls hl' hP hD hS
  show W g.p g.l g.e g.R g.s g.m g.a g.b g.me g.c H locs cells slots g.Q (F0 g.m pc ls st)
  rw [hQ]
  obtain ⟨sa, hsa⟩ := hstr
  refine vx_throwS (own := RX3) (cls := XN) (names := xnm) (ik := 104) (is := is) (ic := 108) (sa := sa) (text := text) (A := g.A) C.1 C.2.1 hl C.2.2.2.1 fit_X fit_n (C.wd kw2_183) (C.wd kw1_13) hsa (xat_all C.2.2.2.2.1 hT.2.2) xat_ot hT.1 hT.2.1 hS (hl'.1.trans C.2.2.1.symm) d0 d3 d4 d6 d9 (fun x hx => (hout x hx).elim)
    (by show 3 + 3 < _; have := r.1; omega) (by show _ + (13 * (3 + 1) + 43) ≤ _; have := r.2.2.2; omega) (by have := r.2.1; omega) (by have := r.2.2.1; omega) C.2.2.2.2.2.2.2.1 (fun t _ h1 h2 => hx t (fun k q hk => (hP k q hk).kept (h2 q.1 (hP k q hk).lt)) ⟨Nat.le_trans hS.1 h1, fun q hq hA => by rw [h2 q (Nat.lt_of_lt_of_le hq hS.1)]; exact hS.2.1 q hq hA⟩) (fun z hz => hS.2.2 z hz) hc hs
/-- THE CONTRACT OF A METHOD THAT THROWS: with the arguments av over the world ws it throws an ArrayIndexOutOfBoundsException, and the world is as it was -/
abbrev PcT (E : GE) (av : List Value) (ws : va_W) (sz : Nat) : Array Value → State → Prop := va_Pc av (fun U => U.heap.size = sz ∧ va_P E.1 vwCl ws U.heap ∧ KW E U ∧ va_D (fun _ => True) ws ∧ TH (va_A ws sz) U U.heap)
def XcT (E : GE) (ws : va_W) (sz : Nat) : String → State → State → Prop := fun X st t => X = XN ∧ va_P E.1 vwCl ws t.heap ∧ va_F (va_A ws sz) st t
def CtrX (l : Launch) (E : GE) (y : MethodName) (cc : ByteArray) (nL : Nat) (ret : Option FieldType) (d : Nat) (av : List Value) (ws : va_W) : Prop :=
  ∀ sz : Nat, vx_Met l y (.code y cc nL ret :: GW) (rmD d 1 6) (PcT E av ws sz) (fun _ _ _ _ => False) (XcT E ws sz) 1 6 (va_A ws sz)
theorem CtrX.intro {l : Launch} {E : GE} {y : MethodName} {cc : ByteArray} {nL : Nat} {ret : Option FieldType} {d : Nat} {av : List Value} {ws : va_W} (hl : l.stackTraces = false)
    (hy : plainName y.cls = true) (hn : (lg_sl av).length ≤ nL)
    (body : ∀ g : Cf, g.l = l → g.n = nL → Cx E g cc y.cls ret → RF g d 1 6 → TH g.A g.s g.s.heap → (∀ x ∈ g.c.exceptionTable.toList, False) → g.Q = vx_MQ g.b (fun _ _ _ _ => False) (XcT E ws g.s.heap.size) g.a g.s 1 6 g.A → g.A = va_A ws g.s.heap.size → G E g ws 0 0 0 (lv_args 0 av) []) : CtrX l E y cc nL ret d av ws := by
  intro sz
  refine vx_ofW (cc := cc) (maxL := nL) (ret := ret) hy rfl ?_
  intro p e s m args below meth c s₁ B hml hout hv
  obtain ⟨rfl, hsz, hP, hK, hD0, hT⟩ := hv
  subst hsz
  have hts : ∀ w ∈ GW, w.before av.toArray s = true := fun w h => atoms_spec (ws := .code y cc nL ret :: GW) B.pre w (List.mem_cons_of_mem _ h)
  have hl2 := lv_entry av (n := nL) hn
  rw [lg_entry_eq]
  exact body (p, l, e, rmD d 1 6, s, m, av.toArray, below, meth, c, nL, va_A ws s.heap.size, vx_MQ below (fun _ _ _ _ => False) (XcT E ws s.heap.size) av.toArray s 1 6 (va_A ws s.heap.size)) rfl rfl
    ⟨B.exec, B.bytes, hml, findClass_of_methodNamed B.named, hts, hK, B.returns, B.notSynchronized, fun q h => Or.inr h⟩ ⟨Nat.le_refl _, Nat.le_refl _, Nat.le_refl _, Nat.le_refl _⟩ hT hout rfl rfl s.heap [] _ hl2 hP (hD0.self) va_S.rf
