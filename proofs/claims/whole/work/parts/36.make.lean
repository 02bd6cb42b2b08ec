/-! things made anew -/
section GM
variable {E : GE} {g : Cf} {cc : ByteArray} {own : String} {ret : Option FieldType} {ws : va_W} {cells slots pc : Nat} {lv : List (Nat × Value)} {st : List Value}
theorem g_new (C : Cx E g cc own ret) {D mc ms : Nat} (r : RF g D mc ms) {Cn : String} {T : u_T} {N ci index : Nat} (hin : ∀ w ∈ u_ws Cn T N, w ∈ GW) (ty : Nat → FieldType) (hty : ∀ k, k < N → parseFieldDescriptor (T k).2.2.1 = some (ty k)) (hcl : Cond.classLink own index Cn ∈ GW) (hinst : Cond.instantiable Cn N ∈ GW) (hini : Cond.initialized Cn ∈ GW) (hc : vwCl[ci]? = some (Cn, T, N)) {fs : List Value} (hfs : ∀ j, j < N → defaultValue (ty j) = vp_V fs j) (h1 : cells + 1 ≤ mc) (h2 : slots + N ≤ ms) (d : decode cc pc = .ok (.new index, 3)) (kk : ∀ q : Nat, G E g (ws ++ [(q, .inr (ci, fs))]) (cells + 1) (slots + N) (pc + 3) lv (.ref q :: st)) : G E g ws cells slots pc lv st :=
  fun H locs ls hl hP hD hS => va_new (D := E.1) C.1 C.2.1 C.2.2.2.2.1 hin ty hty C.2.2.2.1 (C.wd hcl) (C.wd hinst) (C.wd hini) C.2.2.2.2.2.1.1 hP hD hS C.2.2.2.2.2.2.2.2 hc hfs (Nat.le_trans h1 r.2.1) (Nat.le_trans h2 r.2.2.1) d (fun q H1 hP1 hD1 hS1 => kk q H1 locs ls hl hP1 hD1 hS1)
theorem g_newF (C : Cx E g cc own ret) {D mc ms : Nat} (r : RF g D mc ms) {index : Nat} (hcl : Cond.classLink own index "ExchangeRecords$Field" ∈ GW) (hao : va_AO "ExchangeRecords$Field" g.s) {n : Int32} (N : Nat) (hN : n.toInt = (N : Int)) (hb : N ≤ 100000000) (h1 : cells + 1 ≤ mc) (h2 : slots + N ≤ ms) (d : decode cc pc = .ok (.anewarray index, 3)) (kk : ∀ q : Nat, G E g (ws ++ [(q, aF E N (fun _ => none))]) (cells + 1) (slots + N) (pc + 3) lv (.ref q :: st)) : G E g ws cells slots pc lv (.int n :: st) :=
  fun H locs ls hl hP hD hS => va_newq (D := E.1) C.1 C.2.1 C.2.2.2.1 (C.wd hcl) hao C.2.2.2.2.2.1.1 hP hD hS C.2.2.2.2.2.2.2.2 (fun q => by have := Int32.lt_iff_toInt_lt.mp q; have h0 : (0 : Int32).toInt = 0 := rfl; omega) (ti_clamp hN) (by show N * 4 ≤ _; omega) (Nat.le_trans h1 r.2.1) (Nat.le_trans h2 r.2.2.1) d (fun q cA H1 hK1 hP1 hD1 hS1 => by
    have e : cA = E.2.2.2.1 := by
      obtain ⟨_, _, _, _, _, a1⟩ := (hK1.2 4 _ rfl).2
      obtain ⟨_, _, _, _, _, a2⟩ := (hK1.2 2 _ rfl).2
      exact Option.some.inj (a1.symm.trans a2)
    subst e
    exact kk q H1 locs ls hl hP1 hD1 hS1)
theorem g_aastF (C : Cx E g cc own ret) {a v n : Nat} {f : Nat → Option Nat} {vs : List Value} (q0 qk : Nat) (ha : ws[q0]? = some (a, aF E n f)) (hv : ws[qk]? = some (v, .inr (2, vs))) {i : Int32} (k : Nat) (hk : i.toInt = (k : Int)) (hn : k < n) (d : decode cc pc = .ok (.aastore, 1)) (kk : G E g (ws.set q0 (a, aF E n (va_up f k (some v)))) cells slots (pc + 1) lv st) : G E g ws cells slots pc lv (.ref v :: .int i :: .ref a :: st) :=
  fun H locs ls hl hP hD hS => va_astq (D := E.1) (r := (RX0, TX0, 6)) C.1 C.2.1 C.2.2.2.2.2.1.1 hP hD hS q0 2 qk 2 ha rfl hv rfl (ti_in hk hn) d (fun H1 locs1 hP1 hD1 hS1 => by
    rw [ti_clamp hk] at hP1 hD1
    exact kk H1 locs1 ls hl hP1 hD1 hS1)
theorem g_ldc (C : Cx E g cc own ret) {index : Nat} {v : Int32} {n : Int} (hw : Cond.constant own index v ∈ GW) (hv : v.toInt = n) (d : decode cc pc = .ok (.ldc index, 2)) (kk : ∀ z : Int32, z.toInt = n → G E g ws cells slots (pc + 2) lv (.int z :: st)) : G E g ws cells slots pc lv st :=
  fun H locs ls hl hP hD hS => lv_ldc C.1 C.2.1 C.2.2.2.1 (C.wd hw) d (kk _ hv H locs ls hl hP hD hS)
end GM
/-- the pool grows by one -/
theorem zz_cg2 (E : GE) {fo fo2 : Nat → Nat} {fd fd2 : Nat → FV} : ∀ (l : List Nat), (∀ j ∈ l, fd j = fd2 j) → (∀ j ∈ l, fo j = fo2 j) → zz E fo fd l = zz E fo2 fd2 l
  | [], _, _ => rfl
  | a :: l, h, h2 => by
    have e1 := zz_cg2 E (fd := fd) (fd2 := fd2) (fo := fo) (fo2 := fo2) l (fun j hj => h j (List.mem_cons_of_mem _ hj)) (fun j hj => h2 j (List.mem_cons_of_mem _ hj))
    have e2 := h a List.mem_cons_self
    have e3 := h2 a List.mem_cons_self
    simp only [zz, List.flatMap_cons] at e1 ⊢
    rw [e1]
    simp only [zc, e2, e3]
theorem zz_add (E : GE) (fo : Nat → Nat) (fd : Nat → FV) (i q : Nat) (v : FV) : zz E (va_up fo i q) (va_up fd i v) (List.range (i + 1)) = zz E fo fd (List.range i) ++ [(q, .inr (2, [.int v.1, .int v.2.1, .int v.2.2.1, .ref v.2.2.2.2.2.1, .int v.2.2.2.1, .int v.2.2.2.2.1])), (v.2.2.2.2.2.1, aB E v.2.2.2.2.2.2.1 v.2.2.2.2.2.2.2)] := by
  have h : zz E (va_up fo i q) (va_up fd i v) (List.range i) = zz E fo fd (List.range i) := zz_cg2 E _ (fun j hj => va_up_ne fd v (by have := List.mem_range.mp hj; omega)) (fun j hj => va_up_ne fo q (by have := List.mem_range.mp hj; omega))
  rw [List.range_succ, ← h]
  simp only [zz, List.flatMap_append, List.flatMap_cons, List.flatMap_nil, List.append_nil, zc, va_up_self]
theorem g_grow {E : GE} {g : Cf} {X : va_W} {cells slots pc : Nat} {lv : List (Nat × Value)} {st : List Value} {fo : Nat → Nat} {fd : Nat → FV} (i q : Nat) (v : FV) (k : G E g (X ++ zz E (va_up fo i q) (va_up fd i v) (List.range (i + 1))) cells slots pc lv st) : G E g ((X ++ [(q, .inr (2, [.int v.1, .int v.2.1, .int v.2.2.1, .ref v.2.2.2.2.2.1, .int v.2.2.2.1, .int v.2.2.2.2.1])), (v.2.2.2.2.2.1, aB E v.2.2.2.2.2.2.1 v.2.2.2.2.2.2.2)]) ++ zz E fo fd (List.range i)) cells slots pc lv st := by
  refine g_pm ?_ k
  rw [zz_add, List.append_assoc]
  exact List.perm_append_comm.append_left X
theorem g_swap {E : GE} {g : Cf} {X Z Y : va_W} {cells slots pc : Nat} {lv : List (Nat × Value)} {st : List Value} (k : G E g ((X ++ Y) ++ Z) cells slots pc lv st) : G E g ((X ++ Z) ++ Y) cells slots pc lv st := by
  refine g_pm ?_ k
  rw [List.append_assoc, List.append_assoc]
  exact List.perm_append_comm.append_left X
theorem FG_add {fd : Nat → FV} {v : FV} {i : Nat} (h : ∀ j, j < i → BF (fd j).2.2.2.2.2.2.2 ∧ 16 ≤ (fd j).2.2.2.2.2.2.1 ∧ (fd j).2.2.2.2.2.2.1 ≤ 4000) (hv : BF v.2.2.2.2.2.2.2 ∧ 16 ≤ v.2.2.2.2.2.2.1 ∧ v.2.2.2.2.2.2.1 ≤ 4000) : ∀ j, j < i + 1 → BF (va_up fd i v j).2.2.2.2.2.2.2 ∧ 16 ≤ (va_up fd i v j).2.2.2.2.2.2.1 ∧ (va_up fd i v j).2.2.2.2.2.2.1 ≤ 4000 := by
  intro j hj
  by_cases e : j = i
  · subst e; rw [va_up_self]; exact hv
  · rw [va_up_ne fd v e]; exact h j (by omega)
theorem ga_add {ga : Nat → Option Nat} {fo : Nat → Nat} {i q : Nat} (h : ∀ j, j < i → ga j = some (fo j)) : ∀ j, j < i + 1 → va_up ga i (some q) j = some (va_up fo i q j) := by
  intro j hj
  by_cases e : j = i
  · subst e; rw [va_up_self, va_up_self]
  · rw [va_up_ne _ _ e, va_up_ne _ _ e]; exact h j (by omega)
/-- a contract that asks one thing more of the tables -/
def CtrJ (J : State → Prop) (l : Launch) (E : GE) (y : MethodName) (cc : ByteArray) (nL : Nat) (ret : Option FieldType) (d mc ms : Nat) (av : List Value) (ws : va_W) (post : Option Value → va_W → Prop) : Prop :=
  ∀ sz : Nat, Met l y (.code y cc nL ret :: GW) (rmD d mc ms) (va_Pc av (fun U => U.heap.size = sz ∧ va_P E.1 vwCl ws U.heap ∧ KW E U ∧ va_D (fun _ => True) ws ∧ J U)) (Qs E post ws sz) mc ms (va_A ws sz)
theorem CtrJ.intro {J : State → Prop} {l : Launch} {E : GE} {y : MethodName} {cc : ByteArray} {nL : Nat} {ret : Option FieldType} {d mc ms : Nat} {av : List Value} {ws : va_W} {post : Option Value → va_W → Prop}
    (hy : plainName y.cls = true) (hn : (lg_sl av).length ≤ nL)
    (body : ∀ g : Cf, g.l = l → g.n = nL → Cx E g cc y.cls ret → RF g d mc ms → Fi E g post ws mc ms → (y.name = "<init>" → g.me.name = "<init>") → J g.s → G E g ws 0 0 0 (lv_args 0 av) []) : CtrJ J l E y cc nL ret d mc ms av ws post := by
  intro sz
  refine Met.ofW (cc := cc) (maxL := nL) (ret := ret) hy rfl ?_
  intro p e s m args below meth c s₁ B hml hv
  obtain ⟨rfl, hsz, hP, hK, hD0, hJ⟩ := hv
  subst hsz
  have hts : ∀ w ∈ GW, w.before av.toArray s = true := fun w h => atoms_spec (ws := .code y cc nL ret :: GW) B.pre w (List.mem_cons_of_mem _ h)
  have hl := lv_entry av (n := nL) hn
  rw [lg_entry_eq]
  have hin : y.name = "<init>" → meth.name = "<init>" := fun h => by rw [← h]; exact (name_of_methodNamed B.named B.method).1
  exact body (p, l, e, rmD d mc ms, s, m, av.toArray, below, meth, c, nL, va_A ws s.heap.size, MQ below (Qs E post ws s.heap.size) av.toArray s mc ms (va_A ws s.heap.size)) rfl rfl
    ⟨B.exec, B.bytes, hml, findClass_of_methodNamed B.named, hts, hK, B.returns, B.notSynchronized, fun q h => Or.inr h⟩ ⟨Nat.le_refl _, Nat.le_refl _, Nat.le_refl _, Nat.le_refl _⟩ ⟨rfl, rfl⟩ hin hJ s.heap [] _ hl hP (hD0.self) va_S.rf
