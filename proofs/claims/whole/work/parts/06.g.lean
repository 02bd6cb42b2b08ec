/-! THE WALKING JUDGEMENT: G says that the machine, in one method's frame at pc with the locals lv and the stack st, over any heap that holds the world ws, comes to the method's end. The heap itself is out of sight. -/
def NW (U : State) : Prop :=
  va_Nw (.fieldLinkNest "ExchangeRecords" 78 "ExchangeRecords$Field" "tag" "I" "ExchangeRecords") U ∧
  va_Nw (.fieldLinkNest "ExchangeRecords" 89 "ExchangeRecords$Field" "first" "I" "ExchangeRecords") U ∧
  va_Nw (.fieldLinkNest "ExchangeRecords" 92 "ExchangeRecords$Field" "second" "I" "ExchangeRecords") U ∧
  va_Nw (.fieldLinkNest "ExchangeRecords" 189 "ExchangeRecords$Field" "size" "I" "ExchangeRecords") U ∧
  va_Nw (.methodLinkNest "ExchangeRecords$Input" 62 ⟨"ExchangeRecords", "isDigit", "(I)Z"⟩ "ExchangeRecords") U ∧
  va_Nw (.methodLinkNest "ExchangeRecords$Input" 40 ⟨"ExchangeRecords", "fixedByte", "(I)I"⟩ "ExchangeRecords") U ∧
  va_Nw (.methodLinkNest "ExchangeRecords$Input" 43 ⟨"ExchangeRecords", "isControl", "(I)Z"⟩ "ExchangeRecords") U ∧
  va_Nw (.methodLinkNest "ExchangeRecords$Input" 59 ⟨"ExchangeRecords", "isMark", "(I)Z"⟩ "ExchangeRecords") U ∧
  va_Nw (.methodLinkNest "ExchangeRecords$Field" 37 ⟨"ExchangeRecords", "isControl", "(I)Z"⟩ "ExchangeRecords") U
theorem NW.moved {s U : State} (hW : s.WarmedH U.vm) (h : NW s) : NW U := by
  obtain ⟨a1, a2, a3, a4, a5, a6, a7, a8, a9⟩ := h
  exact ⟨va_Nw.warmF hW a1, va_Nw.warmF hW a2, va_Nw.warmF hW a3, va_Nw.warmF hW a4, va_Nw.warmM hW a5, va_Nw.warmM hW a6, va_Nw.warmM hW a7, va_Nw.warmM hW a8, va_Nw.warmM hW a9⟩
theorem NW.same {u U : State} (hv : u.vm = U.vm) (h : NW u) : NW U := by
  obtain ⟨a1, a2, a3, a4, a5, a6, a7, a8, a9⟩ := h
  exact ⟨va_Nw.same rfl hv a1, va_Nw.same rfl hv a2, va_Nw.same rfl hv a3, va_Nw.same rfl hv a4, va_Nw.same rfl hv a5, va_Nw.same rfl hv a6, va_Nw.same rfl hv a7, va_Nw.same rfl hv a8, va_Nw.same rfl hv a9⟩
abbrev GE : Type := va_G × ClassId × ClassId × ClassId × ClassId
abbrev tysG (E : GE) : List (ClassId × FieldType) := [(E.2.1, .byte), (E.2.2.1, .int), (E.2.2.2.1, .object "ExchangeRecords$Field"), (E.2.2.2.2, .long)]
abbrev aB (E : GE) (n : Nat) (f : Nat → Int32) : va_E := .inl (E.2.1, n, .inl f)
abbrev aI (E : GE) (n : Nat) (f : Nat → Int32) : va_E := .inl (E.2.2.1, n, .inl f)
abbrev aF (E : GE) (n : Nat) (f : Nat → Option Nat) : va_E := .inl (E.2.2.2.1, n, .inr (.inr (.inr (.inr f))))
abbrev aJ (E : GE) (n : Nat) (f : Nat → Int64) : va_E := .inl (E.2.2.2.2, n, .inr (.inl f))
def KW (E : GE) (U : State) : Prop := va_K E.1 vwCl (tysG E) U ∧ NW U
theorem KW.moved {E : GE} {s U : State} (hW : s.WarmedH U.vm) (h : KW E s) : KW E U := ⟨va_K.moved hW.alike h.1, h.2.moved hW⟩
theorem KW.calling {E : GE} {U : State} {g : JFrame} {mk : MethodId} {a : Array Value} (h : KW E U) : KW E (U.calling g mk a) := ⟨va_K.moved (u := U) (U := U.calling g mk a) (Vm.Alike.refl U.vm) h.1, NW.same (u := U) (U := U.calling g mk a) rfl h.2⟩
/-- what a method owes at its end: an answer and a world, as post says, and nothing else changed -/
def Qs (E : GE) (post : Option Value → va_W → Prop) (ws : va_W) (sz : Nat) : Array Value → State → Outcome → State → Prop := fun _ st oc t =>
  (∃ (v : Option Value) (w' : va_W), oc = .returned v ∧ post v w' ∧ va_P E.1 vwCl w' t.heap ∧ va_D (va_A ws sz) w') ∧ va_F (va_A ws sz) st t
abbrev rmD (d mc ms : Nat) : Room := { frames := d, cells := mc, slots := ms, locals := 40 * d }
abbrev PcS (E : GE) (av : List Value) (ws : va_W) (sz : Nat) : Array Value → State → Prop := va_Pc av (fun U => U.heap.size = sz ∧ va_P E.1 vwCl ws U.heap ∧ KW E U ∧ va_D (fun _ => True) ws)
/-- A METHOD'S CONTRACT: with the arguments av over the world ws it returns, as post says; d: the depth of its calls; mc cells of ms slots may be new -/
def Ctr (l : Launch) (E : GE) (y : MethodName) (cc : ByteArray) (nL : Nat) (ret : Option FieldType) (d mc ms : Nat) (av : List Value) (ws : va_W) (post : Option Value → va_W → Prop) : Prop :=
  ∀ sz : Nat, Met l y (.code y cc nL ret :: GW) (rmD d mc ms) (PcS E av ws sz) (Qs E post ws sz) mc ms (va_A ws sz)
/-- a method's frame and what stays the same in it: program, launch, env, room, start, method, arguments, frames below, method, code, number of locals, writable cells, goal -/
abbrev Cf : Type := Program × Launch × Env × Room × State × MethodId × Array Value × List Frame × Method × Code × Nat × (Nat → Prop) × (State → Prop)
abbrev Cf.p (g : Cf) : Program := g.1
abbrev Cf.l (g : Cf) : Launch := g.2.1
abbrev Cf.e (g : Cf) : Env := g.2.2.1
abbrev Cf.R (g : Cf) : Room := g.2.2.2.1
abbrev Cf.s (g : Cf) : State := g.2.2.2.2.1
abbrev Cf.m (g : Cf) : MethodId := g.2.2.2.2.2.1
abbrev Cf.a (g : Cf) : Array Value := g.2.2.2.2.2.2.1
abbrev Cf.b (g : Cf) : List Frame := g.2.2.2.2.2.2.2.1
abbrev Cf.me (g : Cf) : Method := g.2.2.2.2.2.2.2.2.1
abbrev Cf.c (g : Cf) : Code := g.2.2.2.2.2.2.2.2.2.1
abbrev Cf.n (g : Cf) : Nat := g.2.2.2.2.2.2.2.2.2.2.1
abbrev Cf.A (g : Cf) : Nat → Prop := g.2.2.2.2.2.2.2.2.2.2.2.1
abbrev Cf.Q (g : Cf) : State → Prop := g.2.2.2.2.2.2.2.2.2.2.2.2
abbrev GW_at (g : Cf) (H : Heap) (locs : List Loc) (cells slots pc : Nat) (ls : Array Slot) (st : List Value) : Prop :=
  W g.p g.l g.e g.R g.s g.m g.a g.b g.me g.c H locs cells slots g.Q (F0 g.m pc ls st)
def G (E : GE) (g : Cf) (ws : va_W) (cells slots pc : Nat) (lv : List (Nat × Value)) (st : List Value) : Prop :=
  ∀ (H : Heap) (locs : List Loc) (ls : Array Slot), lv_has ls g.n lv → va_P E.1 vwCl ws H → va_D g.A ws → va_S g.A g.s.heap H locs → GW_at g H locs cells slots pc ls st
/-- the frame is one of the method with these bytes, of this class, that returns so -/
def Cx (E : GE) (g : Cf) (cc : ByteArray) (own : String) (ret : Option FieldType) : Prop :=
  g.p.tables.exec = Jvm.exec ∧ g.c.code = cc ∧ g.c.maxLocals = g.n ∧ g.s.vm.findClass own = some g.m.cls ∧ (∀ w ∈ GW, w.before g.a g.s = true) ∧ KW E g.s ∧ g.me.sig.returnType = ret ∧ g.me.locks = false ∧ ∀ q, g.s.heap.size ≤ q → g.A q
def RF (g : Cf) (d mc ms : Nat) : Prop := d ≤ g.R.frames ∧ mc ≤ g.R.cells ∧ ms ≤ g.R.slots ∧ 40 * d ≤ g.R.locals
/-- what the frame's end asks -/
def Fi (E : GE) (g : Cf) (post : Option Value → va_W → Prop) (ws : va_W) (mc ms : Nat) : Prop :=
  g.A = va_A ws g.s.heap.size ∧ g.Q = MQ g.b (Qs E post ws g.s.heap.size) g.a g.s mc ms (va_A ws g.s.heap.size)
theorem Ctr.intro {l : Launch} {E : GE} {y : MethodName} {cc : ByteArray} {nL : Nat} {ret : Option FieldType} {d mc ms : Nat} {av : List Value} {ws : va_W} {post : Option Value → va_W → Prop}
    (hy : plainName y.cls = true) (hn : (lg_sl av).length ≤ nL)
    (body : ∀ g : Cf, g.l = l → g.n = nL → Cx E g cc y.cls ret → RF g d mc ms → Fi E g post ws mc ms → (y.name = "<init>" → g.me.name = "<init>") → G E g ws 0 0 0 (lv_args 0 av) []) : Ctr l E y cc nL ret d mc ms av ws post := by
  intro sz
  refine Met.ofW (cc := cc) (maxL := nL) (ret := ret) hy rfl ?_
  intro p e s m args below meth c s₁ B hml hv
  obtain ⟨rfl, hsz, hP, hK, hD0⟩ := hv
  subst hsz
  have hts : ∀ w ∈ GW, w.before av.toArray s = true := fun w h => atoms_spec (ws := .code y cc nL ret :: GW) B.pre w (List.mem_cons_of_mem _ h)
  have hl := lv_entry av (n := nL) hn
  rw [lg_entry_eq]
  have hin : y.name = "<init>" → meth.name = "<init>" := fun h => by rw [← h]; exact (name_of_methodNamed B.named B.method).1
  exact body (p, l, e, rmD d mc ms, s, m, av.toArray, below, meth, c, nL, va_A ws s.heap.size, MQ below (Qs E post ws s.heap.size) av.toArray s mc ms (va_A ws s.heap.size)) rfl rfl
    ⟨B.exec, B.bytes, hml, findClass_of_methodNamed B.named, hts, hK, B.returns, B.notSynchronized, fun q h => Or.inr h⟩ ⟨Nat.le_refl _, Nat.le_refl _, Nat.le_refl _, Nat.le_refl _⟩ ⟨rfl, rfl⟩ hin s.heap [] _ hl hP (hD0.self) va_S.rf
section GR
variable {E : GE} {g : Cf} {cc : ByteArray} {own : String} {ret : Option FieldType} {ws : va_W} {cells slots pc : Nat} {lv : List (Nat × Value)} {st : List Value}
theorem g_lv {lv' : List (Nat × Value)} (ks : List Nat) (h : lv_pick lv ks = lv') (k : G E g ws cells slots pc lv' st) : G E g ws cells slots pc lv st :=
  fun H locs ls hl hP hD hS => k H locs ls (lv_sub hl ks h) hP hD hS
theorem g_ws {ws' : va_W} (hP' : ∀ H, va_P E.1 vwCl ws H → va_P E.1 vwCl ws' H) (hD' : va_D g.A ws → va_D g.A ws') (k : G E g ws' cells slots pc lv st) : G E g ws cells slots pc lv st :=
  fun H locs ls hl hP hD hS => k H locs ls hl (hP' H hP) (hD' hD) hS
theorem g_perm {ws' : va_W} (is : List Nat) (hn : va_nd is = true) (hs : is.map (fun i => ws[i]?) = ws'.map some) (k : G E g ws' cells slots pc lv st) : G E g ws cells slots pc lv st :=
  fun H locs ls hl hP hD hS => k H locs ls hl (hP.sub is (by
    have h2 : is.filterMap (fun i => ws[i]?) = (is.map (fun i => ws[i]?)).filterMap id := by rw [List.filterMap_map]; rfl
    rw [h2, hs, List.filterMap_map]
    exact List.filterMap_some)) (hD.sub is hn hs) hS
theorem g_wide {k n : Nat} (h1 : cells ≤ k) (h2 : slots ≤ n) (kk : G E g ws k n pc lv st) : G E g ws cells slots pc lv st :=
  fun H locs ls hl hP hD hS => W.widen h1 h2 (kk H locs ls hl hP hD hS)
theorem g_iload_n (C : Cx E g cc own ret) {k : Fin 4} {x : Int32} (d : decode cc pc = .ok (.iload_n k, 1)) (j : Nat) (h : lv[j]? = some ((k : Nat), .int x)) (kk : G E g ws cells slots (pc + 1) lv (.int x :: st)) : G E g ws cells slots pc lv st :=
  fun H locs ls hl hP hD hS => lv_iload_n C.1 C.2.1 d rfl (lv_at hl j h) (kk H locs ls hl hP hD hS)
theorem g_iload (C : Cx E g cc own ret) {i : Nat} {x : Int32} (d : decode cc pc = .ok (.iload i, 2)) (j : Nat) (h : lv[j]? = some (i, .int x)) (kk : G E g ws cells slots (pc + 2) lv (.int x :: st)) : G E g ws cells slots pc lv st :=
  fun H locs ls hl hP hD hS => lv_iload C.1 C.2.1 d (lv_at hl j h) (kk H locs ls hl hP hD hS)
theorem g_aload_n (C : Cx E g cc own ret) {k : Fin 4} {x : Nat} (d : decode cc pc = .ok (.aload_n k, 1)) (j : Nat) (h : lv[j]? = some ((k : Nat), .ref x)) (kk : G E g ws cells slots (pc + 1) lv (.ref x :: st)) : G E g ws cells slots pc lv st :=
  fun H locs ls hl hP hD hS => lv_aload_n C.1 C.2.1 d rfl (lv_at hl j h) (kk H locs ls hl hP hD hS)
theorem g_aload (C : Cx E g cc own ret) {i : Nat} {x : Nat} (d : decode cc pc = .ok (.aload i, 2)) (j : Nat) (h : lv[j]? = some (i, .ref x)) (kk : G E g ws cells slots (pc + 2) lv (.ref x :: st)) : G E g ws cells slots pc lv st :=
  fun H locs ls hl hP hD hS => lv_aload C.1 C.2.1 d (lv_at hl j h) (kk H locs ls hl hP hD hS)
theorem g_aload_nN (C : Cx E g cc own ret) {k : Fin 4} (d : decode cc pc = .ok (.aload_n k, 1)) (j : Nat) (h : lv[j]? = some ((k : Nat), .null)) (kk : G E g ws cells slots (pc + 1) lv (.null :: st)) : G E g ws cells slots pc lv st :=
  fun H locs ls hl hP hD hS => lv_aload_nN C.1 C.2.1 d rfl (lv_at hl j h) (kk H locs ls hl hP hD hS)
theorem g_aloadN (C : Cx E g cc own ret) {i : Nat} (d : decode cc pc = .ok (.aload i, 2)) (j : Nat) (h : lv[j]? = some (i, .null)) (kk : G E g ws cells slots (pc + 2) lv (.null :: st)) : G E g ws cells slots pc lv st :=
  fun H locs ls hl hP hD hS => lv_aloadN C.1 C.2.1 d (lv_at hl j h) (kk H locs ls hl hP hD hS)
abbrev lv_put (lv : List (Nat × Value)) (i : Nat) (v : Value) : List (Nat × Value) := (i, v) :: lv.filter (fun q => !(q.1 == i) && !(q.1 + 1 == i && q.2.category == 2))
theorem g_istore_n (C : Cx E g cc own ret) {k : Fin 4} {x : Int32} (d : decode cc pc = .ok (.istore_n k, 1)) (hn : (k : Nat) < g.n) {lv' : List (Nat × Value)} (h : lv_put lv (k : Nat) (.int x) = lv') (kk : G E g ws cells slots (pc + 1) lv' st) : G E g ws cells slots pc lv (.int x :: st) :=
  fun H locs ls hl hP hD hS => lv_istore_n C.1 C.2.1 d rfl hl hn h (fun ls' hl' => kk H locs ls' hl' hP hD hS)
theorem g_istore (C : Cx E g cc own ret) {i : Nat} {x : Int32} (d : decode cc pc = .ok (.istore i, 2)) (hn : i < g.n) {lv' : List (Nat × Value)} (h : lv_put lv i (.int x) = lv') (kk : G E g ws cells slots (pc + 2) lv' st) : G E g ws cells slots pc lv (.int x :: st) :=
  fun H locs ls hl hP hD hS => lv_istore C.1 C.2.1 d hl hn h (fun ls' hl' => kk H locs ls' hl' hP hD hS)
theorem g_astore_n (C : Cx E g cc own ret) {k : Fin 4} {x : Nat} (d : decode cc pc = .ok (.astore_n k, 1)) (hn : (k : Nat) < g.n) {lv' : List (Nat × Value)} (h : lv_put lv (k : Nat) (.ref x) = lv') (kk : G E g ws cells slots (pc + 1) lv' st) : G E g ws cells slots pc lv (.ref x :: st) :=
  fun H locs ls hl hP hD hS => lv_astore_n C.1 C.2.1 d rfl hl hn h (fun ls' hl' => kk H locs ls' hl' hP hD hS)
theorem g_astore (C : Cx E g cc own ret) {i : Nat} {x : Nat} (d : decode cc pc = .ok (.astore i, 2)) (hn : i < g.n) {lv' : List (Nat × Value)} (h : lv_put lv i (.ref x) = lv') (kk : G E g ws cells slots (pc + 2) lv' st) : G E g ws cells slots pc lv (.ref x :: st) :=
  fun H locs ls hl hP hD hS => lv_astore C.1 C.2.1 d hl hn h (fun ls' hl' => kk H locs ls' hl' hP hD hS)
theorem g_astore_nN (C : Cx E g cc own ret) {k : Fin 4} (d : decode cc pc = .ok (.astore_n k, 1)) (hn : (k : Nat) < g.n) {lv' : List (Nat × Value)} (h : lv_put lv (k : Nat) .null = lv') (kk : G E g ws cells slots (pc + 1) lv' st) : G E g ws cells slots pc lv (.null :: st) :=
  fun H locs ls hl hP hD hS => lv_astore_nN C.1 C.2.1 d rfl hl hn h (fun ls' hl' => kk H locs ls' hl' hP hD hS)
theorem g_astoreN (C : Cx E g cc own ret) {i : Nat} (d : decode cc pc = .ok (.astore i, 2)) (hn : i < g.n) {lv' : List (Nat × Value)} (h : lv_put lv i .null = lv') (kk : G E g ws cells slots (pc + 2) lv' st) : G E g ws cells slots pc lv (.null :: st) :=
  fun H locs ls hl hP hD hS => lv_astoreN C.1 C.2.1 d hl hn h (fun ls' hl' => kk H locs ls' hl' hP hD hS)
theorem g_iconst (C : Cx E g cc own ret) {n : Int} (d : decode cc pc = .ok (.iconst n, 1)) (hn : (Int32.ofInt n).toInt = n) (kk : ∀ z : Int32, z.toInt = n → G E g ws cells slots (pc + 1) lv (.int z :: st)) : G E g ws cells slots pc lv st :=
  fun H locs ls hl hP hD hS => lv_iconst C.1 C.2.1 d rfl (kk _ hn H locs ls hl hP hD hS)
theorem g_bipush (C : Cx E g cc own ret) {n : Int} (d : decode cc pc = .ok (.bipush n, 2)) (hn : (Int8.ofInt n).toInt32.toInt = n) (kk : ∀ z : Int32, z.toInt = n → G E g ws cells slots (pc + 2) lv (.int z :: st)) : G E g ws cells slots pc lv st :=
  fun H locs ls hl hP hD hS => lv_bipush C.1 C.2.1 d rfl (kk _ hn H locs ls hl hP hD hS)
theorem g_sipush (C : Cx E g cc own ret) {n : Int} (d : decode cc pc = .ok (.sipush n, 3)) (hn : (Int16.ofInt n).toInt32.toInt = n) (kk : ∀ z : Int32, z.toInt = n → G E g ws cells slots (pc + 3) lv (.int z :: st)) : G E g ws cells slots pc lv st :=
  fun H locs ls hl hP hD hS => lv_sipush C.1 C.2.1 d rfl (kk _ hn H locs ls hl hP hD hS)
theorem g_null (C : Cx E g cc own ret) (d : decode cc pc = .ok (.aconst_null, 1)) (kk : G E g ws cells slots (pc + 1) lv (.null :: st)) : G E g ws cells slots pc lv st :=
  fun H locs ls hl hP hD hS => lv_null C.1 C.2.1 d (kk H locs ls hl hP hD hS)
theorem g_dup (C : Cx E g cc own ret) {v : Value} (d : decode cc pc = .ok (.dup, 1)) (hv : v.category = 1) (kk : G E g ws cells slots (pc + 1) lv (v :: v :: st)) : G E g ws cells slots pc lv (v :: st) :=
  fun H locs ls hl hP hD hS => lv_dup C.1 C.2.1 d hv (kk H locs ls hl hP hD hS)
theorem g_pop (C : Cx E g cc own ret) {v : Value} (d : decode cc pc = .ok (.pop, 1)) (hv : v.category = 1) (kk : G E g ws cells slots (pc + 1) lv st) : G E g ws cells slots pc lv (v :: st) :=
  fun H locs ls hl hP hD hS => lv_pop C.1 C.2.1 d hv (kk H locs ls hl hP hD hS)
theorem g_goto (C : Cx E g cc own ret) {off : Int} (tgt : Nat) (d : decode cc pc = .ok (.goto off, 3)) (ht : (pc : Int) + off = (tgt : Int)) (kk : G E g ws cells slots tgt lv st) : G E g ws cells slots pc lv st :=
  fun H locs ls hl hP hD hS => lv_goto C.1 C.2.1 d ht (kk H locs ls hl hP hD hS)
theorem g_ifnull (C : Cx E g cc own ret) {x : Nat} {off : Int} (d : decode cc pc = .ok (.ifnull off, 3)) (kk : G E g ws cells slots (pc + 3) lv st) : G E g ws cells slots pc lv (.ref x :: st) :=
  fun H locs ls hl hP hD hS => lv_ifnull C.1 C.2.1 d (kk H locs ls hl hP hD hS)
theorem g_ifnullN (C : Cx E g cc own ret) {off : Int} (tgt : Nat) (d : decode cc pc = .ok (.ifnull off, 3)) (ht : (pc : Int) + off = (tgt : Int)) (kk : G E g ws cells slots tgt lv st) : G E g ws cells slots pc lv (.null :: st) :=
  fun H locs ls hl hP hD hS => lv_ifnullN C.1 C.2.1 d ht (kk H locs ls hl hP hD hS)
theorem g_ifnonnull (C : Cx E g cc own ret) {x : Nat} {off : Int} (tgt : Nat) (d : decode cc pc = .ok (.ifnonnull off, 3)) (ht : (pc : Int) + off = (tgt : Int)) (kk : G E g ws cells slots tgt lv st) : G E g ws cells slots pc lv (.ref x :: st) :=
  fun H locs ls hl hP hD hS => lv_ifnonnull C.1 C.2.1 d ht (kk H locs ls hl hP hD hS)
end GR
