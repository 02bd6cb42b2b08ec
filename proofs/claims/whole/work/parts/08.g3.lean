/-! objects, arrays, calls -/
theorem inG_X0 : ∀ w ∈ wsX00, w ∈ GW := by decide +kernel
theorem inG_X1 : ∀ w ∈ wsX10, w ∈ GW := by decide +kernel
theorem inG_X2 : ∀ w ∈ wsX20, w ∈ GW := by decide +kernel
theorem inG_X3 : ∀ w ∈ wsX30, w ∈ GW := by decide +kernel
theorem inG_X4 : ∀ w ∈ wsX40, w ∈ GW := by decide +kernel
section GO
variable {E : GE} {g : Cf} {cc : ByteArray} {own : String} {ret : Option FieldType} {ws : va_W} {cells slots pc : Nat} {lv : List (Nat × Value)} {st : List Value} {a : Nat}
theorem Cx.wd (C : Cx E g cc own ret) {w : Cond} (h : w ∈ GW) : w.before g.a g.s = true := C.2.2.2.2.1 w h
theorem g_get (C : Cx E g cc own ret) {Cn : String} {T : u_T} {N ci index : Nat} (hin : ∀ w ∈ u_ws Cn T N, w ∈ GW) (hc : vwCl[ci]? = some (Cn, T, N)) (k : Nat) (hk : k < N) (hw : Cond.fieldLink own index (T k).1 (T k).2.1 (T k).2.2.1 ∈ GW) (q0 : Nat) {fs : List Value} {v : Value} (he : ws[q0]? = some (a, .inr (ci, fs))) (hv : fs[k]? = some v) (d : decode cc pc = .ok (.getfield index, 3)) (kk : G E g ws cells slots (pc + 3) lv (v :: st)) : G E g ws cells slots pc lv (.ref a :: st) :=
  fun H locs ls hl hP hD hS => va_get (D := E.1) C.1 C.2.1 C.2.2.2.2.1 hin C.2.2.2.1 C.2.2.2.2.2.1.1 hP q0 he hc k hk (C.wd hw) (fun _ h => h) hv d (kk H locs ls hl hP hD hS)
theorem g_getN (C : Cx E g cc own ret) {Cn host : String} {T : u_T} {N ci index : Nat} (hin : ∀ w ∈ u_ws Cn T N, w ∈ GW) (hc : vwCl[ci]? = some (Cn, T, N)) (k : Nat) (hk : k < N) (hw : va_Nw (.fieldLinkNest own index (T k).1 (T k).2.1 (T k).2.2.1 host) g.s) (q0 : Nat) {fs : List Value} {v : Value} (he : ws[q0]? = some (a, .inr (ci, fs))) (hv : fs[k]? = some v) (d : decode cc pc = .ok (.getfield index, 3)) (kk : G E g ws cells slots (pc + 3) lv (v :: st)) : G E g ws cells slots pc lv (.ref a :: st) :=
  fun H locs ls hl hP hD hS => va_getN (D := E.1) C.1 C.2.1 C.2.2.2.2.1 hin C.2.2.2.1 C.2.2.2.2.2.1.1 hP q0 he hc k hk (va_Nw.use rfl hw) (fun _ h => h) hv d (kk H locs ls hl hP hD hS)
theorem g_put (C : Cx E g cc own ret) {Cn : String} {T : u_T} {N ci index : Nat} (hin : ∀ w ∈ u_ws Cn T N, w ∈ GW) (ty0 : Nat → FieldType) (hty : ∀ k, k < N → parseFieldDescriptor (T k).2.2.1 = some (ty0 k)) (hnm : ∀ a, a < N → ∀ b, b < N → a ≠ b → (T a).2.1 ≠ (T b).2.1) (hc : vwCl[ci]? = some (Cn, T, N)) (k : Nat) (hk : k < N) (hfin : (T k).2.2.2 = false) (hw : Cond.fieldLink own index (T k).1 (T k).2.1 (T k).2.2.1 ∈ GW) (q0 : Nat) {fs : List Value} {v : Value} (he : ws[q0]? = some (a, .inr (ci, fs))) (hl : k < fs.length) (hn : narrow (ty0 k) v = v) (hfit : fits (ty0 k) v = true) (d : decode cc pc = .ok (.putfield index, 3)) (kk : G E g (ws.set q0 (a, .inr (ci, fs.set k v))) cells slots (pc + 3) lv st) : G E g ws cells slots pc lv (v :: .ref a :: st) :=
  fun H locs ls hl' hP hD hS => va_put (D := E.1) C.1 C.2.1 C.2.2.2.2.1 hin ty0 hty hnm C.2.2.2.1 C.2.2.2.2.2.1.1 hP hD hS q0 he hc k hk (C.wd hw) (fun _ h => h) hfin (hty k hk) hn hfit hl d (fun H1 locs1 hP1 hD1 hS1 => kk H1 locs1 ls hl' hP1 hD1 hS1)
theorem g_putF (C : Cx E g cc own ret) (hi : g.me.name = "<init>") {Cn : String} {T : u_T} {N ci index : Nat} (hin : ∀ w ∈ u_ws Cn T N, w ∈ GW) (ty0 : Nat → FieldType) (hty : ∀ k, k < N → parseFieldDescriptor (T k).2.2.1 = some (ty0 k)) (hnm : ∀ a, a < N → ∀ b, b < N → a ≠ b → (T a).2.1 ≠ (T b).2.1) (hc : vwCl[ci]? = some (Cn, T, N)) (k : Nat) (hk : k < N) (hfin : (T k).2.2.2 = true) (hdecl : (T k).1 = own) (hw : Cond.fieldLink own index (T k).1 (T k).2.1 (T k).2.2.1 ∈ GW) (q0 : Nat) {fs : List Value} {v : Value} (he : ws[q0]? = some (a, .inr (ci, fs))) (hl : k < fs.length) (hn : narrow (ty0 k) v = v) (hfit : fits (ty0 k) v = true) (d : decode cc pc = .ok (.putfield index, 3)) (kk : G E g (ws.set q0 (a, .inr (ci, fs.set k v))) cells slots (pc + 3) lv st) : G E g ws cells slots pc lv (v :: .ref a :: st) :=
  fun H locs ls hl' hP hD hS => va_putF (D := E.1) C.1 C.2.1 C.2.2.2.2.1 hin ty0 hty hnm C.2.2.2.1 C.2.2.2.2.2.1.1 hP hD hS q0 he hc k hk (C.wd hw) (fun _ h => h) hfin hi hdecl (hty k hk) hn hfit hl d (fun H1 locs1 hP1 hD1 hS1 => kk H1 locs1 ls hl' hP1 hD1 hS1)
theorem g_baload (C : Cx E g cc own ret) {i : Int32} {n : Nat} {f : Nat → Int32} (q0 : Nat) (he : ws[q0]? = some (a, aB E n f)) (d : decode cc pc = .ok (.baload, 1)) (k : Nat) (hk : i.toInt = (k : Int)) (hn : k < n) (kk : ∀ z : Int32, z = f k → G E g ws cells slots (pc + 1) lv (.int z :: st)) : G E g ws cells slots pc lv (.int i :: .ref a :: st) :=
  fun H locs ls hl hP hD hS => va_bald (D := E.1) C.1 C.2.1 C.2.2.2.2.2.1.1 hP q0 0 he rfl (ti_in hk hn) d (kk _ (by rw [ti_clamp hk]) H locs ls hl hP hD hS)
theorem g_iaload (C : Cx E g cc own ret) {i : Int32} {n : Nat} {f : Nat → Int32} (q0 : Nat) (he : ws[q0]? = some (a, aI E n f)) (d : decode cc pc = .ok (.iaload, 1)) (k : Nat) (hk : i.toInt = (k : Int)) (hn : k < n) (kk : ∀ z : Int32, z = f k → G E g ws cells slots (pc + 1) lv (.int z :: st)) : G E g ws cells slots pc lv (.int i :: .ref a :: st) :=
  fun H locs ls hl hP hD hS => va_iald (D := E.1) C.1 C.2.1 C.2.2.2.2.2.1.1 hP q0 1 he rfl (ti_in hk hn) d (kk _ (by rw [ti_clamp hk]) H locs ls hl hP hD hS)
theorem g_laload (C : Cx E g cc own ret) {i : Int32} {n : Nat} {f : Nat → Int64} (q0 : Nat) (he : ws[q0]? = some (a, aJ E n f)) (d : decode cc pc = .ok (.laload, 1)) (k : Nat) (hk : i.toInt = (k : Int)) (hn : k < n) (kk : G E g ws cells slots (pc + 1) lv (.long (f k) :: st)) : G E g ws cells slots pc lv (.int i :: .ref a :: st) :=
  fun H locs ls hl hP hD hS => va_lald (D := E.1) C.1 C.2.1 C.2.2.2.2.2.1.1 hP q0 3 he rfl (ti_in hk hn) d (by rw [ti_clamp hk]; exact kk H locs ls hl hP hD hS)
theorem g_aaload (C : Cx E g cc own ret) {i : Int32} {n : Nat} {f : Nat → Option Nat} (q0 : Nat) (he : ws[q0]? = some (a, aF E n f)) (d : decode cc pc = .ok (.aaload, 1)) (k : Nat) (hk : i.toInt = (k : Int)) (hn : k < n) {r : Nat} (hr : f k = some r) (kk : G E g ws cells slots (pc + 1) lv (.ref r :: st)) : G E g ws cells slots pc lv (.int i :: .ref a :: st) :=
  fun H locs ls hl hP hD hS => va_aldq (D := E.1) C.1 C.2.1 C.2.2.2.2.2.1.1 hP q0 2 he rfl (ti_in hk hn) d (by rw [ti_clamp hk, hr]; exact kk H locs ls hl hP hD hS)
theorem g_bastore (C : Cx E g cc own ret) {i x : Int32} {n : Nat} {f : Nat → Int32} (q0 : Nat) (he : ws[q0]? = some (a, aB E n f)) (d : decode cc pc = .ok (.bastore, 1)) (k : Nat) (hk : i.toInt = (k : Int)) (hn : k < n) (kk : G E g (ws.set q0 (a, aB E n (upd f k (sB (u8 x))))) cells slots (pc + 1) lv st) : G E g ws cells slots pc lv (.int x :: .int i :: .ref a :: st) :=
  fun H locs ls hl hP hD hS => va_bast (D := E.1) C.1 C.2.1 C.2.2.2.2.2.1.1 hP hD hS q0 0 he rfl (ti_in hk hn) d (fun H1 locs1 hP1 hD1 hS1 => by
    rw [ti_clamp hk, vn_byte] at hP1 hD1
    exact kk H1 locs1 ls hl hP1 hD1 hS1)
theorem g_iastore (C : Cx E g cc own ret) {i x : Int32} {n : Nat} {f : Nat → Int32} (q0 : Nat) (he : ws[q0]? = some (a, aI E n f)) (d : decode cc pc = .ok (.iastore, 1)) (k : Nat) (hk : i.toInt = (k : Int)) (hn : k < n) (kk : G E g (ws.set q0 (a, aI E n (upd f k x))) cells slots (pc + 1) lv st) : G E g ws cells slots pc lv (.int x :: .int i :: .ref a :: st) :=
  fun H locs ls hl hP hD hS => va_iast (D := E.1) C.1 C.2.1 C.2.2.2.2.2.1.1 hP hD hS q0 1 he rfl (ti_in hk hn) d (fun H1 locs1 hP1 hD1 hS1 => by
    rw [ti_clamp hk] at hP1 hD1
    exact kk H1 locs1 ls hl hP1 hD1 hS1)
theorem g_alenB (C : Cx E g cc own ret) {n : Nat} {f : Nat → Int32} (q0 : Nat) (he : ws[q0]? = some (a, aB E n f)) (d : decode cc pc = .ok (.arraylength, 1)) (hn : n < 2147483648) (kk : ∀ z : Int32, z.toInt = (n : Int) → G E g ws cells slots (pc + 1) lv (.int z :: st)) : G E g ws cells slots pc lv (.ref a :: st) :=
  fun H locs ls hl hP hD hS => va_alen (D := E.1) C.1 C.2.1 C.2.2.2.2.2.1.1 hP q0 0 he rfl rfl d (kk _ (ti_nI hn) H locs ls hl hP hD hS)
theorem g_newB (C : Cx E g cc own ret) {D mc ms : Nat} (r : RF g D mc ms) {n : Int32} (d : decode cc pc = .ok (.newarray .byte, 2)) (N : Nat) (hN : n.toInt = (N : Int)) (hb : N ≤ 500000000) (h1 : cells + 1 ≤ mc) (h2 : slots + N ≤ ms) (kk : ∀ q : Nat, G E g (ws ++ [(q, aB E N (fun _ => 0))]) (cells + 1) (slots + N) (pc + 2) lv (.ref q :: st)) : G E g ws cells slots pc lv (.int n :: st) :=
  fun H locs ls hl hP hD hS => va_newa (D := E.1) (atype := .byte) (a0 := (N, .inl (fun _ => 0))) C.1 C.2.1 (C.wd kw1_39) rfl C.2.2.2.2.2.1.1 hP hD hS C.2.2.2.2.2.2.2.2 (fun _ => rfl) (fun q => by have := Int32.lt_iff_toInt_lt.mp q; have h0 : (0 : Int32).toInt = 0 := rfl; omega) (ti_clamp hN) (by show N * 1 ≤ _; omega) (Nat.le_trans h1 r.2.1) (Nat.le_trans h2 r.2.2.1) d (fun q cA H1 hK1 hP1 hD1 hS1 => by
    have e : cA = E.2.1 := Option.some.inj (((hK1.2 4 _ rfl).2 : g.s.vm.findClass _ = some cA).symm.trans ((hK1.2 0 _ rfl).2 : g.s.vm.findClass _ = some E.2.1))
    subst e
    exact kk q H1 locs ls hl hP1 hD1 hS1)
theorem g_newI (C : Cx E g cc own ret) {D mc ms : Nat} (r : RF g D mc ms) {n : Int32} (d : decode cc pc = .ok (.newarray .int, 2)) (N : Nat) (hN : n.toInt = (N : Int)) (hb : N ≤ 100000000) (h1 : cells + 1 ≤ mc) (h2 : slots + N ≤ ms) (kk : ∀ q : Nat, G E g (ws ++ [(q, aI E N (fun _ => 0))]) (cells + 1) (slots + N) (pc + 2) lv (.ref q :: st)) : G E g ws cells slots pc lv (.int n :: st) :=
  fun H locs ls hl hP hD hS => va_newa (D := E.1) (atype := .int) (a0 := (N, .inl (fun _ => 0))) C.1 C.2.1 (C.wd kw1_108) rfl C.2.2.2.2.2.1.1 hP hD hS C.2.2.2.2.2.2.2.2 (fun _ => rfl) (fun q => by have := Int32.lt_iff_toInt_lt.mp q; have h0 : (0 : Int32).toInt = 0 := rfl; omega) (ti_clamp hN) (by show N * 4 ≤ _; omega) (Nat.le_trans h1 r.2.1) (Nat.le_trans h2 r.2.2.1) d (fun q cA H1 hK1 hP1 hD1 hS1 => by
    have e : cA = E.2.2.1 := Option.some.inj (((hK1.2 4 _ rfl).2 : g.s.vm.findClass _ = some cA).symm.trans ((hK1.2 1 _ rfl).2 : g.s.vm.findClass _ = some E.2.2.1))
    subst e
    exact kk q H1 locs ls hl hP1 hD1 hS1)
theorem g_objInit (C : Cx E g cc own ret) {D mc ms : Nat} (r : RF g D mc ms) (hD1 : 1 ≤ D) {idx : Nat} (hw : Cond.methodLink own idx Lib.objectInit ∈ GW) (d : decode cc pc = .ok (.invokespecial idx, 3)) (hst : (st.map fun v => v.category).sum ≤ 8) (kk : G E g ws cells slots (pc + 3) lv st) : G E g ws cells slots pc lv (.ref a :: st) :=
  fun H locs ls hl hP hD hS => W.objInit C.1 C.2.1 C.2.2.2.1 (C.wd hw) (C.wd kw1_21) (C.wd kw1_22) (g := F0 g.m pc ls (.ref a :: st)) rfl (by rw [C.2.2.1]; exact hl.1) rfl d (by have := r.1; omega) (by have := r.2.2.2; show 2 * 0 + _ + 12 ≤ _; omega) (kk H locs ls hl hP hD hS)
end GO
/-- ws is wr and wc side by side -/
def Spl (ws wr wc : va_W) : Prop := (∀ (D : va_G) (cl : List vw_C) (H : Heap), va_P D cl ws H → va_P D cl wr H ∧ va_P D cl wc H) ∧ ∀ A : Nat → Prop, va_D A ws → va_D A (wr ++ wc)
theorem sub_fm {ws ws' : va_W} {is : List Nat} (hs : is.map (fun i => ws[i]?) = ws'.map some) : is.filterMap (fun i => ws[i]?) = ws' := by
  have h2 : is.filterMap (fun i => ws[i]?) = (is.map (fun i => ws[i]?)).filterMap id := by rw [List.filterMap_map]; rfl
  rw [h2, hs, List.filterMap_map]
  exact List.filterMap_some
theorem Spl.at {ws wr wc : va_W} (isR isC : List Nat) (hR : isR.map (fun i => ws[i]?) = wr.map some) (hC : isC.map (fun i => ws[i]?) = wc.map some) (hn : va_nd (isR ++ isC) = true) : Spl ws wr wc :=
  ⟨fun _ _ _ hP => ⟨hP.sub isR (sub_fm hR), hP.sub isC (sub_fm hC)⟩, fun _ hD => hD.sub (isR ++ isC) hn (by rw [List.map_append, List.map_append, hR, hC])⟩
theorem Spl.all (ws : va_W) : Spl ws [] ws := ⟨fun _ _ _ hP => ⟨fun k q h => by simp at h, hP⟩, fun _ hD => hD⟩
theorem va_D.left {A : Nat → Prop} {w1 w2 : va_W} (h : va_D A (w1 ++ w2)) : va_D A w1 := by
  have key : ∀ (k : Nat) (q : Nat × va_E), w1[k]? = some q → (w1 ++ w2)[k]? = some q := fun k q hk => by
    rw [List.getElem?_append_left (List.getElem?_eq_some_iff.mp hk).1]; exact hk
  exact ⟨fun i j p q hi hj => h.1 i j p q (key i p hi) (key j q hj), fun k q hk => h.2 k q (key k q hk)⟩
theorem va_D.right {A : Nat → Prop} {w1 w2 : va_W} (h : va_D A (w1 ++ w2)) : va_D A w2 := by
  have key : ∀ (k : Nat) (q : Nat × va_E), w2[k]? = some q → (w1 ++ w2)[w1.length + k]? = some q := fun k q hk => by
    rw [List.getElem?_append_right (by omega), Nat.add_sub_cancel_left]; exact hk
  exact ⟨fun i j p q hi hj e => by have := h.1 _ _ p q (key i p hi) (key j q hj) e; omega, fun k q hk => h.2 _ q (key k q hk)⟩
theorem va_D.cross {A : Nat → Prop} {w1 w2 : va_W} (h : va_D A (w1 ++ w2)) {i j : Nat} {p q : Nat × va_E} (hi : w1[i]? = some p) (hj : w2[j]? = some q) : p.1 ≠ q.1 := by
  intro e
  have h1 : (w1 ++ w2)[i]? = some p := by rw [List.getElem?_append_left (List.getElem?_eq_some_iff.mp hi).1]; exact hi
  have h2 : (w1 ++ w2)[w1.length + j]? = some q := by rw [List.getElem?_append_right (by omega), Nat.add_sub_cancel_left]; exact hj
  have := h.1 _ _ p q h1 h2 e
  have := (List.getElem?_eq_some_iff.mp hi).1
  omega
section GC
variable {E : GE} {g : Cf} {cc : ByteArray} {own : String} {ret : Option FieldType} {ws wr wc : va_W} {cells slots pc : Nat} {lv : List (Nat × Value)} {st0 rest : List Value}
/-- behind a call: the rest of the world, and the callee's -/
theorem g_run (C : Cx E g cc own ret) {mc ms : Nat} {a : Array Value} {post : Option Value → va_W → Prop} (sp : Spl ws wr wc)
    (hr : ∀ (H : Heap) (locs : List Loc) (ls : Array Slot), lv_has ls g.n lv → va_P E.1 vwCl wc H → va_D (fun _ => True) wc → va_Run g.p g.l g.e g.R g.s g.m g.a g.b g.me g.c H locs cells slots mc ms (F0 g.m pc ls st0) rest (Qs E post wc H.size a) (va_A wc H.size))
    (kk : ∀ (v : Option Value) (w' : va_W), post v w' → G E g (wr ++ w') (cells + mc) (slots + ms) (pc + 3) lv (v.toList ++ rest)) : G E g ws cells slots pc lv st0 := by
  intro H locs ls hl hP hD hS T hT X
  obtain ⟨hPr, hPc⟩ := sp.1 _ _ _ hP
  have hDD := sp.2 _ hD
  obtain ⟨v, st₀, t, T', L, h0, X', hL, e1, e2, ⟨⟨v', w', hv, hp, hP1, hD1⟩, hz, hk⟩, stp⟩ := hr H locs ls hl hPc (hDD.right.weaken (fun _ _ _ _ => trivial)) T hT X
  cases hv
  rw [h0] at hz hk
  have hF : ∀ q, va_A wc H.size q → g.A q := by
    intro q hq
    rcases hq with ⟨k, e, hq⟩ | hq
    · exact hDD.right.2 k _ hq
    · exact C.2.2.2.2.2.2.2.2 q (Nat.le_trans hS.1 hq)
  have apart : ∀ (k : Nat) (q : Nat × va_E), wr[k]? = some q → q.1 < H.size ∧ ¬ va_A wc H.size q.1 := by
    intro k q hq
    have hlt := (hPr k q hq).lt
    refine ⟨hlt, fun h => ?_⟩
    rcases h with ⟨k2, e, h⟩ | h
    · exact hDD.cross hq h rfl
    · omega
  have hPn : va_P E.1 vwCl (wr ++ w') T'.heap := va_P.app (fun k q hq => (hPr k q hq).kept (by rw [e1]; exact hk q.1 (apart k q hq).1 (apart k q hq).2)) (by rw [e1]; exact hP1)
  have hDn : va_D g.A (wr ++ w') := va_D.app hDD.left (hD1.weaken (fun k q _ h => hF q.1 h)) (fun i j x y hx hy hxy => (apart i x hx).2 (by rw [hxy]; exact hD1.2 j y hy))
  obtain ⟨t2, a1, b1⟩ := kk v w' hp T'.heap (locs ++ L) ls hl hPn hDn
    ⟨Nat.le_trans hS.1 (by rw [e1]; exact hz), fun q h1 h2 => by rw [e1, hk q (Nat.lt_of_lt_of_le h1 hS.1) (fun z => h2 (hF q z))]; exact hS.2.1 q h1 h2, fun q hq => by
      rcases List.mem_append.mp hq with h | h
      · exact hS.2.2 q h
      · exact hF _ (hL q h)⟩ T' rfl X'
  exact ⟨t2, stp t2 a1, b1⟩
theorem gi_GW {w : Cond} (h : w ∈ GW) : w ∈ GW ∧ ((w.onTables && w.keeps) = true ∨ ∃ ty, w = .arrayClass ty) := ⟨h, good_of_word (List.mem_filter.mp h).2⟩
theorem gi_c {w : Cond} (hw : w ∈ GW) : GoodIn GW (w :: GW) := fun x hx => (List.mem_cons.mp hx).elim (fun e => by rw [e]; exact gi_GW hw) gi_GW
theorem fb_S {E : GE} {av : List Value} {ws : va_W} {sz : Nat} : FrameBlind (PcS E av ws sz) := fun _ _ _ _ h => ⟨h.1, h.2.1, h.2.2.1, h.2.2.2.1.calling, h.2.2.2.2⟩
/-- the words of a call of an instance method by its own class -/
def MV (own : String) (index : Nat) (y : MethodName) (yc : ByteArray) (nL : Nat) (ret : Option FieldType) (n : Nat) : Prop :=
  Cond.methodLink own index y ∈ GW ∧ Cond.instanceMethod y ∈ GW ∧ Cond.selects y.cls y y ∈ GW ∧ Cond.initialized y.cls ∈ GW ∧ Cond.code y yc nL ret ∈ GW ∧ (y.cls ≠ "java/lang/invoke/MethodHandle" ∧ y.cls ≠ "java/lang/invoke/VarHandle" ∧ (parseMethodDescriptor y.desc).map (fun d => d.parameters.length) = some n) ∧ nL ≤ 21
def MS (own : String) (index : Nat) (y : MethodName) (yc : ByteArray) (nL : Nat) (ret : Option FieldType) (n : Nat) : Prop :=
  Cond.methodLink own index y ∈ GW ∧ Cond.static y ∈ GW ∧ Cond.initialized y.cls ∈ GW ∧ Cond.code y yc nL ret ∈ GW ∧ (y.cls ≠ "java/lang/invoke/MethodHandle" ∧ y.cls ≠ "java/lang/invoke/VarHandle" ∧ (parseMethodDescriptor y.desc).map (fun d => d.parameters.length) = some n) ∧ nL ≤ 21
def MN (own host : String) (index : Nat) (y : MethodName) (yc : ByteArray) (nL : Nat) (ret : Option FieldType) (n : Nat) : Prop :=
  (∀ U : State, NW U → va_Nw (.methodLinkNest own index y host) U) ∧ Cond.static y ∈ GW ∧ Cond.initialized y.cls ∈ GW ∧ Cond.code y yc nL ret ∈ GW ∧ (y.cls ≠ "java/lang/invoke/MethodHandle" ∧ y.cls ≠ "java/lang/invoke/VarHandle" ∧ (parseMethodDescriptor y.desc).map (fun d => d.parameters.length) = some n) ∧ nL ≤ 21
def MI (own : String) (index : Nat) (y : MethodName) (yc : ByteArray) (nL : Nat) (n : Nat) : Prop :=
  Cond.methodLink own index y ∈ GW ∧ Cond.instanceMethod y ∈ GW ∧ Cond.initialized y.cls ∈ GW ∧ Cond.code y yc nL none ∈ GW ∧ (y.cls ≠ "java/lang/invoke/MethodHandle" ∧ y.cls ≠ "java/lang/invoke/VarHandle" ∧ (parseMethodDescriptor y.desc).map (fun d => d.parameters.length) = some n) ∧ nL ≤ 21 ∧ y.name = "<init>"
variable {y : MethodName} {yc : ByteArray} {nL index n D mcT msT d mc ms : Nat} {ry : Option FieldType} {post : Option Value → va_W → Prop} {b : Nat} {As : List Value}
theorem g_callV (C : Cx E g cc own ret) (r : RF g D mcT msT) (mv : MV own index y yc nL ry n) (dd : decode cc pc = .ok (.invokevirtual index, 3)) (hM : Ctr g.l E y yc nL ry d mc ms (.ref b :: As) wc post) (sp : Spl ws wr wc) (q0 : Nat) {ci : Nat} {q : vw_C} {fs : List Value} (he : wc[q0]? = some (b, .inr (ci, fs))) (hc : vwCl[ci]? = some q) (hq : q.1 = y.cls) (hn : As.length = n) (hst : (rest.map fun v => v.category).sum ≤ 8) (hd : d + 1 ≤ D) (h1 : cells + mc ≤ mcT) (h2 : slots + ms ≤ msT)
    (kk : ∀ (v : Option Value) (w' : va_W), post v w' → G E g (wr ++ w') (cells + mc) (slots + ms) (pc + 3) lv (v.toList ++ rest)) : G E g ws cells slots pc lv (As.reverse ++ .ref b :: rest) := by
  obtain ⟨k1, k2, k3, k4, k5, k6, k7⟩ := mv
  refine g_run C (a := (Value.ref b :: As).toArray) sp (fun H locs ls hl hPc hDc => ?_) kk
  refine va_runV (Ts := GW) (own := own) (As := As) (C := y.cls) (bytes := yc) (maxL := nL) (ret := ry) (n := n) ⟨C.1, C.2.1, C.2.2.1, C.2.2.2.1, C.2.2.2.2.1⟩ (hM H.size) ⟨callB_of n C.2.2.2.2.1 (gi_c k5) rfl rfl rfl (C.wd k4) (C.wd k1) k6 ⟨by show d + 1 ≤ _; have := r.1; omega, by show 8 + (nL + 11) + 40 * d ≤ _; have := r.2.2.2; omega⟩, C.wd k2, C.wd k3⟩
    ⟨fb_S, by have := va_recv C.2.2.2.2.2.1.1 hPc hc he; rw [hq] at this; exact this, fun U hU hW => ⟨rfl, by rw [hU], by rw [hU]; exact hPc, C.2.2.2.2.2.1.moved hW, hDc⟩⟩ rfl hn hl.1 rfl (lv_room hst) dd ⟨Nat.le_trans h1 r.2.1, Nat.le_trans h2 r.2.2.1⟩
theorem g_callS (C : Cx E g cc own ret) (r : RF g D mcT msT) (mv : MS own index y yc nL ry n) (dd : decode cc pc = .ok (.invokestatic index, 3)) (hM : Ctr g.l E y yc nL ry d mc ms As wc post) (sp : Spl ws wr wc) (hn : As.length = n) (hst : (rest.map fun v => v.category).sum ≤ 8) (hd : d + 1 ≤ D) (h1 : cells + mc ≤ mcT) (h2 : slots + ms ≤ msT)
    (kk : ∀ (v : Option Value) (w' : va_W), post v w' → G E g (wr ++ w') (cells + mc) (slots + ms) (pc + 3) lv (v.toList ++ rest)) : G E g ws cells slots pc lv (As.reverse ++ rest) := by
  obtain ⟨k1, k2, k4, k5, k6, k7⟩ := mv
  refine g_run C (a := As.toArray) sp (fun H locs ls hl hPc hDc => ?_) kk
  refine va_runS (Ts := GW) (own := own) (As := As) (bytes := yc) (maxL := nL) (ret := ry) (n := n) ⟨C.1, C.2.1, C.2.2.1, C.2.2.2.1, C.2.2.2.2.1⟩ (hM H.size) ⟨callB_of n C.2.2.2.2.1 (gi_c k5) rfl rfl rfl (C.wd k4) (C.wd k1) k6 ⟨by show d + 1 ≤ _; have := r.1; omega, by show 8 + (nL + 11) + 40 * d ≤ _; have := r.2.2.2; omega⟩, C.wd k2⟩
    ⟨fb_S, fun U hU hW => ⟨rfl, by rw [hU], by rw [hU]; exact hPc, C.2.2.2.2.2.1.moved hW, hDc⟩⟩ rfl hn hl.1 rfl (lv_room hst) dd ⟨Nat.le_trans h1 r.2.1, Nat.le_trans h2 r.2.2.1⟩
theorem g_callN (C : Cx E g cc own ret) (r : RF g D mcT msT) {host : String} (mv : MN own host index y yc nL ry n) (dd : decode cc pc = .ok (.invokestatic index, 3)) (hM : Ctr g.l E y yc nL ry d mc ms As wc post) (sp : Spl ws wr wc) (hn : As.length = n) (hst : (rest.map fun v => v.category).sum ≤ 8) (hd : d + 1 ≤ D) (h1 : cells + mc ≤ mcT) (h2 : slots + ms ≤ msT)
    (kk : ∀ (v : Option Value) (w' : va_W), post v w' → G E g (wr ++ w') (cells + mc) (slots + ms) (pc + 3) lv (v.toList ++ rest)) : G E g ws cells slots pc lv (As.reverse ++ rest) := by
  obtain ⟨k1, k2, k4, k5, k6, k7⟩ := mv
  refine g_run C (a := As.toArray) sp (fun H locs ls hl hPc hDc => ?_) kk
  refine va_runSN (Ts := GW) (own := own) (As := As) (bytes := yc) (maxL := nL) (ret := ry) (n := n) (host := host) ⟨C.1, C.2.1, C.2.2.1, C.2.2.2.1, C.2.2.2.2.1⟩ (hM H.size) ⟨va_cnB n C.2.2.2.2.1 (gi_c k5) rfl rfl rfl (k1 _ C.2.2.2.2.2.1.2) (C.wd k4) k6 ⟨by show d + 1 ≤ _; have := r.1; omega, by show 8 + (nL + 11) + 40 * d ≤ _; have := r.2.2.2; omega⟩, C.wd k2, trivial⟩
    ⟨fb_S, fun U hU hW => ⟨rfl, by rw [hU], by rw [hU]; exact hPc, C.2.2.2.2.2.1.moved hW, hDc⟩⟩ rfl hn hl.1 rfl (lv_room hst) dd ⟨Nat.le_trans h1 r.2.1, Nat.le_trans h2 r.2.2.1⟩
theorem g_callI (C : Cx E g cc own ret) (r : RF g D mcT msT) (mv : MI own index y yc nL n) (dd : decode cc pc = .ok (.invokespecial index, 3)) (hM : Ctr g.l E y yc nL none d mc ms (.ref b :: As) wc post) (sp : Spl ws wr wc) (hn : As.length = n) (hst : (rest.map fun v => v.category).sum ≤ 8) (hd : d + 1 ≤ D) (h1 : cells + mc ≤ mcT) (h2 : slots + ms ≤ msT)
    (kk : ∀ (v : Option Value) (w' : va_W), post v w' → G E g (wr ++ w') (cells + mc) (slots + ms) (pc + 3) lv (v.toList ++ rest)) : G E g ws cells slots pc lv (As.reverse ++ .ref b :: rest) := by
  obtain ⟨k1, k2, k4, k5, k6, k7, k8⟩ := mv
  refine g_run C (a := (Value.ref b :: As).toArray) sp (fun H locs ls hl hPc hDc => ?_) kk
  refine va_runI (Ts := GW) (own := own) (As := As) (bytes := yc) (maxL := nL) (n := n) ⟨C.1, C.2.1, C.2.2.1, C.2.2.2.1, C.2.2.2.2.1⟩ (hM H.size) ⟨callB_of n C.2.2.2.2.1 (gi_c k5) rfl rfl rfl (C.wd k4) (C.wd k1) k6 ⟨by show d + 1 ≤ _; have := r.1; omega, by show 8 + (nL + 11) + 40 * d ≤ _; have := r.2.2.2; omega⟩, k8, C.wd k2⟩
    ⟨fb_S, fun U hU hW => ⟨rfl, by rw [hU], by rw [hU]; exact hPc, C.2.2.2.2.2.1.moved hW, hDc⟩⟩ rfl hn hl.1 rfl (lv_room hst) dd ⟨Nat.le_trans h1 r.2.1, Nat.le_trans h2 r.2.2.1⟩
end GC
