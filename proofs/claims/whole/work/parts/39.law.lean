/-! rows of the law -/
section GL
variable {E : GE} {g : Cf} {cc : ByteArray} {own : String} {ret : Option FieldType} {ws wr wc : va_W} {cells slots pc : Nat} {lv : List (Nat × Value)} {st st0 rest : List Value} {a : Nat}
theorem g_lastore (C : Cx E g cc own ret) {i : Int32} {x : Int64} {n : Nat} {f : Nat → Int64} (q0 : Nat) (he : ws[q0]? = some (a, aJ E n f)) (d : decode cc pc = .ok (.lastore, 1)) (k : Nat) (hk : i.toInt = (k : Int)) (hn : k < n) (kk : G E g (ws.set q0 (a, aJ E n (vp_updL f k x))) cells slots (pc + 1) lv st) : G E g ws cells slots pc lv (.long x :: .int i :: .ref a :: st) :=
  fun H locs ls hl hP hD hS => va_last (D := E.1) C.1 C.2.1 C.2.2.2.2.2.1.1 hP hD hS q0 3 he rfl (ti_in hk hn) d (fun H1 locs1 hP1 hD1 hS1 => by
    rw [ti_clamp hk] at hP1 hD1
    exact kk H1 locs1 ls hl hP1 hD1 hS1)
theorem g_lcmp (C : Cx E g cc own ret) {x y : Int64} (d : decode cc pc = .ok (.lcmp, 1)) (kk : ∀ z : Int32, (x = y → z.toInt = 0) → G E g ws cells slots (pc + 1) lv (.int z :: st)) : G E g ws cells slots pc lv (.long y :: .long x :: st) :=
  fun H locs ls hl hP hD hS => W.lcmp C.1 C.2.1 d (kk _ (fun e => by subst e; have h : lg_cmp x x = 0 := by simp [lg_cmp]
                                                                     rw [h]; rfl) H locs ls hl hP hD hS)
theorem g_newJ (C : Cx E g cc own ret) {D mc ms : Nat} (r : RF g D mc ms) {n : Int32} (d : decode cc pc = .ok (.newarray .long, 2)) (N : Nat) (hN : n.toInt = (N : Int)) (hb : N ≤ 1000000) (h1 : cells + 1 ≤ mc) (h2 : slots + N ≤ ms) (kk : ∀ q : Nat, G E g (ws ++ [(q, aJ E N (fun _ => 0))]) (cells + 1) (slots + N) (pc + 2) lv (.ref q :: st)) : G E g ws cells slots pc lv (.int n :: st) :=
  fun H locs ls hl hP hD hS => va_newa (D := E.1) (atype := .long) (a0 := (N, .inr (.inl (fun _ => 0)))) C.1 C.2.1 (C.wd kw3_146) rfl C.2.2.2.2.2.1.1 hP hD hS C.2.2.2.2.2.2.2.2 (fun _ => rfl) (fun q => by have := Int32.lt_iff_toInt_lt.mp q; have h0 : (0 : Int32).toInt = 0 := rfl; omega) (ti_clamp hN) (by show N * 8 ≤ _; omega) (Nat.le_trans h1 r.2.1) (Nat.le_trans h2 r.2.2.1) d (fun q cA H1 hK1 hP1 hD1 hS1 => by
    have e : cA = E.2.2.2.2 := Option.some.inj (((hK1.2 4 _ rfl).2 : g.s.vm.findClass _ = some cA).symm.trans ((hK1.2 3 _ rfl).2 : g.s.vm.findClass _ = some E.2.2.2.2))
    subst e
    exact kk q H1 locs ls hl hP1 hD1 hS1)
theorem g_sld (C : Cx E g cc own ret) {b L : Nat} {xs : Nat → Int32} (hX : va_X b L xs g.s g.s.heap) (hbl : b < g.s.heap.size) (hbA : ¬ g.A b) {i : Int32} (d : decode cc pc = .ok (.iaload, 1)) (k : Nat) (hk : i.toInt = (k : Int)) (hn : k < L) (kk : G E g ws cells slots (pc + 1) lv (.int (xs k) :: st)) : G E g ws cells slots pc lv (.int i :: .ref b :: st) :=
  fun H locs ls hl hP hD hS => va_sld C.1 C.2.1 hX hbl hbA hS (ti_in hk hn) d (by rw [ti_clamp hk]; exact kk H locs ls hl hP hD hS)
theorem g_slen (C : Cx E g cc own ret) {b L : Nat} {xs : Nat → Int32} (hX : va_X b L xs g.s g.s.heap) (hbl : b < g.s.heap.size) (hbA : ¬ g.A b) (d : decode cc pc = .ok (.arraylength, 1)) (hn : L < 2147483648) (kk : ∀ z : Int32, z.toInt = (L : Int) → G E g ws cells slots (pc + 1) lv (.int z :: st)) : G E g ws cells slots pc lv (.ref b :: st) :=
  fun H locs ls hl hP hD hS => va_slen C.1 C.2.1 hX hbl hbA hS d (kk _ (ti_nI hn) H locs ls hl hP hD hS)
theorem g_iand (C : Cx E g cc own ret) {x y : Int32} (d : decode cc pc = .ok (.iand, 1)) (kk : ∀ z : Int32, G E g ws cells slots (pc + 1) lv (.int z :: st)) : G E g ws cells slots pc lv (.int y :: .int x :: st) :=
  fun H locs ls hl hP hD hS => lv_iand C.1 C.2.1 d (kk _ H locs ls hl hP hD hS)
theorem g_tabI (C : Cx E g cc own ret) {dflt lo hi : Int} {offs : Array Int} {len : Nat} {x : Int32} {off : Int} (tgt : Nat) (d : decode cc pc = .ok (.tableswitch dflt lo hi offs, len)) (h1 : ¬ x.toInt < lo) (h2 : ¬ hi < x.toInt) (ho : offs[(x.toInt - lo).toNat]? = some off) (ht : (pc : Int) + off = (tgt : Int)) (kk : G E g ws cells slots tgt lv st) : G E g ws cells slots pc lv (.int x :: st) :=
  fun H locs ls hl hP hD hS => lv_tableIn C.1 C.2.1 d h1 h2 ho ht (kk H locs ls hl hP hD hS)
theorem g_tabO (C : Cx E g cc own ret) {dflt lo hi : Int} {offs : Array Int} {len : Nat} {x : Int32} (tgt : Nat) (d : decode cc pc = .ok (.tableswitch dflt lo hi offs, len)) (h : x.toInt < lo ∨ hi < x.toInt) (ht : (pc : Int) + dflt = (tgt : Int)) (kk : G E g ws cells slots tgt lv st) : G E g ws cells slots pc lv (.int x :: st) :=
  fun H locs ls hl hP hD hS => lv_tableOut C.1 C.2.1 d h ht (kk H locs ls hl hP hD hS)
/-- behind a call, as g_run, for contracts that ask more of the heap -/
theorem g_runT (C : Cx E g cc own ret) {mc ms : Nat} {a : Array Value} {post : Option Value → va_W → Prop} (sp : Spl ws wr wc)
    (hr : ∀ (H : Heap) (locs : List Loc) (ls : Array Slot), lv_has ls g.n lv → va_P E.1 vwCl wc H → va_D (fun _ => True) wc → va_S g.A g.s.heap H locs → (∀ q, va_A wc H.size q → g.A q) → va_Run g.p g.l g.e g.R g.s g.m g.a g.b g.me g.c H locs cells slots mc ms (F0 g.m pc ls st0) rest (Qs E post wc H.size a) (va_A wc H.size))
    (kk : ∀ (v : Option Value) (w' : va_W), post v w' → G E g (wr ++ w') (cells + mc) (slots + ms) (pc + 3) lv (v.toList ++ rest)) : G E g ws cells slots pc lv st0 := by
  intro H locs ls hl hP hD hS T hT X
  obtain ⟨hPr, hPc⟩ := sp.1 _ _ _ hP
  have hDD := sp.2 _ hD
  have hF := A_sub C hDD hS
  obtain ⟨v, st₀, t, T', L, h0, X', hL, e1, e2, ⟨⟨v', w', hv, hp, hP1, hD1⟩, hz, hk⟩, stp⟩ := hr H locs ls hl hPc (hDD.right.weaken (fun _ _ _ _ => trivial)) hS hF T hT X
  cases hv
  rw [h0] at hz hk
  have apart : ∀ (k : Nat) (q : Nat × va_E), wr[k]? = some q → q.1 < H.size ∧ ¬ va_A wc H.size q.1 := by
    intro k q hq
    have hlt := (hPr k q hq).lt
    refine ⟨hlt, fun h => ?_⟩
    rcases h with ⟨k2, e, h⟩ | h
    · exact hDD.cross hq h rfl
    · omega
  have hPn : va_P E.1 vwCl (wr ++ w') T'.heap := va_P.app (fun k q hq => (hPr k q hq).kept (by rw [e1]; exact hk q.1 (apart k q hq).1 (apart k q hq).2)) (by rw [e1]; exact hP1)
  have hDn : va_D g.A (wr ++ w') := va_D.app hDD.left (hD1.weaken (fun k q _ h => hF q.1 h)) (fun i j x y hx hy hxy => (apart i x hx).2 (by rw [hxy]; exact hD1.2 j y hy))
  obtain ⟨t2, a1, b1⟩ := kk v w' hp T'.heap (locs ++ L) ls hl hPn hDn
    ⟨Nat.le_trans hS.1 (by rw [e1]; exact hz), fun q h1 h2 => by rw [e1, hk q (Nat.lt_of_lt_of_le h1 hS.1) (fun z => h2 (hF q z))]; exact hS.2.1 q h1 h2, fun q hq => by
      rcases List.mem_append.mp hq with h | h
      · exact hS.2.2 q h
      · exact hF _ (hL q h)⟩ T' rfl X'
  exact ⟨t2, stp t2 a1, b1⟩
variable {y : MethodName} {yc : ByteArray} {nL index n D mcT msT d mc ms : Nat} {ry : Option FieldType} {post : Option Value → va_W → Prop} {b : Nat} {As : List Value}
/-- the words of a static call of a method with a table -/
def MSW (own : String) (index : Nat) (y : MethodName) (yc : ByteArray) (nL : Nat) (ret : Option FieldType) (hh : List (Nat × Nat × Nat × Nat)) (n : Nat) : Prop :=
  Cond.methodLink own index y ∈ GW ∧ Cond.static y ∈ GW ∧ Cond.initialized y.cls ∈ GW ∧ Cond.codeWith y yc nL ret hh ∈ GW ∧ (y.cls ≠ "java/lang/invoke/MethodHandle" ∧ y.cls ≠ "java/lang/invoke/VarHandle" ∧ (parseMethodDescriptor y.desc).map (fun d => d.parameters.length) = some n) ∧ nL ≤ 21
theorem g_callSW (C : Cx E g cc own ret) (r : RF g D mcT msT) (hT : TH g.A g.s g.s.heap) {hh : List (Nat × Nat × Nat × Nat)} (mv : MSW own index y yc nL ry hh n) (dd : decode cc pc = .ok (.invokestatic index, 3)) (hM : CtrW g.l E y yc nL ry hh d mc ms As wc post) (sp : Spl ws wr wc) (hn : As.length = n) (hst : (rest.map fun v => v.category).sum ≤ 8) (hd : d + 1 ≤ D) (h1 : cells + mc ≤ mcT) (h2 : slots + ms ≤ msT)
    (kk : ∀ (v : Option Value) (w' : va_W), post v w' → G E g (wr ++ w') (cells + mc) (slots + ms) (pc + 3) lv (v.toList ++ rest)) : G E g ws cells slots pc lv (As.reverse ++ rest) := by
  obtain ⟨k1, k2, k4, k5, k6, k7⟩ := mv
  refine g_runT C (a := As.toArray) sp (fun H locs ls hl hPc hDc hS hF => ?_) kk
  have hG : GoodIn GW (va_wsS own index y (.codeWith y yc nL ry hh :: GW)) := by
    intro w hw
    rcases List.mem_append.mp (show w ∈ ([.methodLink own index y, .static y, .initialized y.cls] : List Cond) ++ (.codeWith y yc nL ry hh :: GW) from hw) with h | h
    · rcases List.mem_cons.mp h with e | h
      · rw [e]; exact gi_GW k1
      · rcases List.mem_cons.mp h with e | h
        · rw [e]; exact gi_GW k2
        · rw [List.mem_singleton.mp h]; exact gi_GW k4
    · rcases List.mem_cons.mp h with e | h
      · rw [e]; exact gi_GW k5
      · exact gi_GW h
  exact vx_runSW (Ts := GW) (own := own) (As := As) (bytes := yc) (maxL := nL) (ret := ry) (hh := hh) (n := n) ⟨C.1, C.2.1, C.2.2.1, C.2.2.2.1, C.2.2.2.2.1⟩ (hM H.size) (vx_cwSW n C.2.2.2.2.1 hG rfl rfl rfl k6 ⟨by show d + 1 ≤ _; have := r.1; omega, by show 8 + (nL + 11) + 40 * d ≤ _; have := r.2.2.2; omega⟩)
    ⟨fb_T, fun U hU hW => ⟨rfl, by rw [hU], by rw [hU]; exact hPc, C.2.2.2.2.2.1.moved hW, hDc, by rw [hU]; exact hT.to hS hW hF⟩⟩ rfl hn hl.1 rfl (lv_room hst) dd ⟨Nat.le_trans h1 r.2.1, Nat.le_trans h2 r.2.2.1⟩
theorem va_AO.calling {Cn : String} {U : State} {g : JFrame} {mk : MethodId} {a : Array Value} (h : va_AO Cn U) : va_AO Cn (U.calling g mk a) := va_AO.moved (u := U) (U := U.calling g mk a) (Vm.Alike.refl U.vm) h
theorem g_callIJ (C : Cx E g cc own ret) (r : RF g D mcT msT) {Cn : String} (hao : va_AO Cn g.s) (mv : MI own index y yc nL n) (dd : decode cc pc = .ok (.invokespecial index, 3)) (hM : CtrJ (va_AO Cn) g.l E y yc nL none d mc ms (.ref b :: As) wc post) (sp : Spl ws wr wc) (hn : As.length = n) (hst : (rest.map fun v => v.category).sum ≤ 8) (hd : d + 1 ≤ D) (h1 : cells + mc ≤ mcT) (h2 : slots + ms ≤ msT)
    (kk : ∀ (v : Option Value) (w' : va_W), post v w' → G E g (wr ++ w') (cells + mc) (slots + ms) (pc + 3) lv (v.toList ++ rest)) : G E g ws cells slots pc lv (As.reverse ++ .ref b :: rest) := by
  obtain ⟨k1, k2, k4, k5, k6, k7, k8⟩ := mv
  refine g_run C (a := (Value.ref b :: As).toArray) sp (fun H locs ls hl hPc hDc => ?_) kk
  refine va_runI (Ts := GW) (own := own) (As := As) (bytes := yc) (maxL := nL) (n := n) ⟨C.1, C.2.1, C.2.2.1, C.2.2.2.1, C.2.2.2.2.1⟩ (hM H.size) ⟨callB_of n C.2.2.2.2.1 (gi_c k5) rfl rfl rfl (C.wd k4) (C.wd k1) k6 ⟨by show d + 1 ≤ _; have := r.1; omega, by show 8 + (nL + 11) + 40 * d ≤ _; have := r.2.2.2; omega⟩, k8, C.wd k2⟩
    ⟨fun _ _ _ _ h => ⟨h.1, h.2.1, h.2.2.1, h.2.2.2.1.calling, h.2.2.2.2.1, h.2.2.2.2.2.calling⟩, fun U hU hW => ⟨rfl, by rw [hU], by rw [hU]; exact hPc, C.2.2.2.2.2.1.moved hW, hDc, va_AO.moved hW.alike hao⟩⟩ rfl hn hl.1 rfl (lv_room hst) dd ⟨Nat.le_trans h1 r.2.1, Nat.le_trans h2 r.2.2.1⟩
end GL
theorem sw_L_46 : MSW RL 46 yL_directory cL_directory 5 (some .int) [(0, 10, 13, 13)] 4 := ⟨kw2_103, kw2_104, kw1_0, gw_2 105 rfl rfl, ⟨by decide, by decide, by decide +kernel⟩, by decide⟩
theorem sw_L_77 : MSW RL 77 yL_octet cL_octet 4 (some .int) [(0, 9, 12, 13)] 3 := ⟨kw2_186, kw2_187, kw1_0, gw_2 188 rfl rfl, ⟨by decide, by decide, by decide +kernel⟩, by decide⟩
set_option maxHeartbeats 1000000 in
set_option maxRecDepth 10000 in
/-- the law's octet: 0 and the byte, or 1 where the class throws -/
theorem c_L_octet (l : Launch) (hl : l.stackTraces = false) (E : GE) (x op ob cap ja : Nat) (of : Nat → Int32) (jf : Nat → Int64) (os y : Int32) (o : List Nat) (z0 z2 z3 z4 z5 z6 z7 : Value) (hos : os.toInt = (o.length : Int)) (hB : Bs of 0 o) (hcp : o.length ≤ cap) : CtrW l E yL_octet cL_octet 4 (some .int) [(0, 9, 12, 13)] 8 1 6 [.ref x, .int y, .ref ja] [(x, .inr (5, [z0, .ref op, z2, z3, z4, z5, z6, z7])), (op, .inr (4, [.ref ob, .int os])), (ob, aB E (cap) (of)), (ja, aJ E 1 jf)]
    (fun v w => ∃ (r : Int32) (jf2 : Nat → Int64), v = some (.int r) ∧ ((0 ≤ y.toInt ∧ y.toInt < (o.length : Int) ∧ r.toInt = 0 ∧ jf2 0 = (sB (o.getD y.toInt.toNat 0)).toInt64) ∨ (¬ (0 ≤ y.toInt ∧ y.toInt < (o.length : Int)) ∧ r.toInt = 1)) ∧ w = [(x, .inr (5, [z0, .ref op, z2, z3, z4, z5, z6, z7])), (op, .inr (4, [.ref ob, .int os])), (ob, aB E (cap) (of)), (ja, aJ E 1 jf2)]) := by
  refine CtrW.intro (by decide) (Nat.le_of_ble_eq_true rfl) (fun g hgl hN C r F hT htab => ?_)
  subst hgl
  change G E g [(x, .inr (5, [z0, .ref op, z2, z3, z4, z5, z6, z7])), (op, .inr (4, [.ref ob, .int os])), (ob, aB E (cap) (of)), (ja, aJ E 1 jf)] 0 0 0 [(0, .ref x), (1, .int y), (2, .ref ja)] []
  refine g_aload_n C dL_octet_0 2 rfl ?_
  refine g_iconst C dL_octet_1 (by decide) (fun x1 e1 => ?_)
  refine g_aload_n C dL_octet_2 0 rfl ?_
  refine g_iload_n C dL_octet_3 1 rfl ?_
  by_cases hin : 0 ≤ y.toInt ∧ y.toInt < (o.length : Int)
  · refine g_callV C r mv_L_15 dL_octet_4 (c_X3_octet g.l E x op ob cap of os y o z0 z2 z3 z4 z5 z6 z7 hos hB hcp hin) (wr := [(ja, aJ E 1 jf)]) (As := [.int y]) (rest := [.int x1, .ref ja]) (Spl.at [3] [0, 1, 2] rfl rfl rfl) 0 rfl rfl rfl rfl (Nat.le_of_ble_eq_true rfl) (by decide) (by omega) (by omega) (fun v w h => ?_)
    obtain ⟨x4, rfl, e4, rfl⟩ := h
    change G E g [(ja, aJ E 1 jf), (x, .inr (5, [z0, .ref op, z2, z3, z4, z5, z6, z7])), (op, .inr (4, [.ref ob, .int os])), (ob, aB E (cap) (of))] _ _ _ _ [.int x4, .int x1, .ref ja]
    refine g_i2l C dL_octet_7 ?_
    refine g_lastore C 0 rfl dL_octet_8 0 (by omega) (by omega) ?_
    change G E g [(ja, aJ E 1 (vp_updL jf 0 x4.toInt64)), (x, .inr (5, [z0, .ref op, z2, z3, z4, z5, z6, z7])), (op, .inr (4, [.ref ob, .int os])), (ob, aB E (cap) (of))] _ _ _ _ _
    refine g_goto C 15 dL_octet_9 (by decide) ?_
    refine g_iconst C dL_octet_15 (by decide) (fun x15 e15 => ?_)
    refine g_perm [1, 2, 3, 0] rfl (ws' := [(x, .inr (5, [z0, .ref op, z2, z3, z4, z5, z6, z7])), (op, .inr (4, [.ref ob, .int os])), (ob, aB E (cap) (of)), (ja, aJ E 1 (vp_updL jf 0 x4.toInt64))]) rfl ?_
    exact g_iret C F dL_octet_16 rfl rfl (by omega) (by omega) ⟨x15, _, rfl, Or.inl ⟨hin.1, hin.2, e15, by rw [← e4]; rfl⟩, rfl⟩
  · refine g_callX C r hT mv_L_15 dL_octet_4 (c_X3_octetX g.l hl E x op ob cap of os y o z0 z2 z3 z4 z5 z6 z7 hos hB hcp hin) (wr := [(ja, aJ E 1 jf)]) (As := [.int y]) (rest := [.int x1, .ref ja]) (Spl.at [3] [0, 1, 2] rfl rfl rfl) 0 rfl rfl rfl rfl (Nat.le_of_ble_eq_true rfl) (by decide) (by omega) (by omega) ⟨0, 9, 12, 13⟩ htab rfl (by decide) kw2_106 (fun z => ?_)
    change G E g [(ja, aJ E 1 jf), (x, .inr (5, [z0, .ref op, z2, z3, z4, z5, z6, z7])), (op, .inr (4, [.ref ob, .int os])), (ob, aB E (cap) (of))] _ _ 12 _ _
    refine g_astore_n C dL_octet_12 (by rw [hN]; decide) (lv' := [(3, .ref z), (0, .ref x), (1, .int y), (2, .ref ja)]) rfl ?_
    refine g_iconst C dL_octet_13 (by decide) (fun x13 e13 => ?_)
    refine g_perm [1, 2, 3, 0] rfl (ws' := [(x, .inr (5, [z0, .ref op, z2, z3, z4, z5, z6, z7])), (op, .inr (4, [.ref ob, .int os])), (ob, aB E (cap) (of)), (ja, aJ E 1 jf)]) rfl ?_
    exact g_iret C F dL_octet_14 rfl rfl (by omega) (by omega) ⟨x13, _, rfl, Or.inr ⟨hin, e13⟩, rfl⟩
set_option maxHeartbeats 1000000 in
set_option maxRecDepth 10000 in
/-- the law's directory: 0 and the number, or 1 where the class throws -/
theorem c_L_directory (l : Launch) (hl : l.stackTraces = false) (E : GE) (x ra ja : Nat) (rf : Nat → Int32) (jf : Nat → Int64) (rc y t : Int32) (R : Nat) (z0 z1 z2 z3 z6 z7 : Value) (hrc : rc.toInt = (R : Int)) (hR : R ≤ 60) : CtrW l E yL_directory cL_directory 5 (some .int) [(0, 10, 13, 13)] 8 1 6 [.ref x, .int y, .int t, .ref ja] [(x, .inr (5, [z0, z1, z2, z3, .ref ra, .int rc, z6, z7])), (ra, aI E (180) (rf)), (ja, aJ E 1 jf)]
    (fun v w => ∃ (r : Int32) (jf2 : Nat → Int64), v = some (.int r) ∧ ((0 ≤ y.toInt ∧ y.toInt < (R : Int) ∧ r.toInt = 0 ∧ ∃ q : Int32, jf2 0 = q.toInt64 ∧ ((0 ≤ t.toInt ∧ t.toInt ≤ 2 ∧ q = rf (3 * y.toInt.toNat + t.toInt.toNat)) ∨ (¬ (0 ≤ t.toInt ∧ t.toInt ≤ 2) ∧ q.toInt = -1))) ∨ (¬ (0 ≤ y.toInt ∧ y.toInt < (R : Int)) ∧ r.toInt = 1)) ∧ w = [(x, .inr (5, [z0, z1, z2, z3, .ref ra, .int rc, z6, z7])), (ra, aI E (180) (rf)), (ja, aJ E 1 jf2)]) := by
  refine CtrW.intro (by decide) (Nat.le_of_ble_eq_true rfl) (fun g hgl hN C r F hT htab => ?_)
  subst hgl
  change G E g [(x, .inr (5, [z0, z1, z2, z3, .ref ra, .int rc, z6, z7])), (ra, aI E (180) (rf)), (ja, aJ E 1 jf)] 0 0 0 [(0, .ref x), (1, .int y), (2, .int t), (3, .ref ja)] []
  refine g_aload_n C dL_directory_0 3 rfl ?_
  refine g_iconst C dL_directory_1 (by decide) (fun x1 e1 => ?_)
  refine g_aload_n C dL_directory_2 0 rfl ?_
  refine g_iload_n C dL_directory_3 1 rfl ?_
  refine g_iload_n C dL_directory_4 2 rfl ?_
  by_cases hin : 0 ≤ y.toInt ∧ y.toInt < (R : Int)
  · refine g_callV C r mv_L_7 dL_directory_5 (c_X3_directory g.l E x ra rf rc y t R z0 z1 z2 z3 z6 z7 hrc hR hin) (wr := [(ja, aJ E 1 jf)]) (As := [.int y, .int t]) (rest := [.int x1, .ref ja]) (Spl.at [2] [0, 1] rfl rfl rfl) 0 rfl rfl rfl rfl (Nat.le_of_ble_eq_true rfl) (by decide) (by omega) (by omega) (fun v w h => ?_)
    obtain ⟨x4, rfl, e4, rfl⟩ := h
    change G E g [(ja, aJ E 1 jf), (x, .inr (5, [z0, z1, z2, z3, .ref ra, .int rc, z6, z7])), (ra, aI E (180) (rf))] _ _ _ _ [.int x4, .int x1, .ref ja]
    refine g_i2l C dL_directory_8 ?_
    refine g_lastore C 0 rfl dL_directory_9 0 (by omega) (by omega) ?_
    change G E g [(ja, aJ E 1 (vp_updL jf 0 x4.toInt64)), (x, .inr (5, [z0, z1, z2, z3, .ref ra, .int rc, z6, z7])), (ra, aI E (180) (rf))] _ _ _ _ _
    refine g_goto C 17 dL_directory_10 (by decide) ?_
    refine g_iconst C dL_directory_17 (by decide) (fun x15 e15 => ?_)
    refine g_perm [1, 2, 0] rfl (ws' := [(x, .inr (5, [z0, z1, z2, z3, .ref ra, .int rc, z6, z7])), (ra, aI E (180) (rf)), (ja, aJ E 1 (vp_updL jf 0 x4.toInt64))]) rfl ?_
    exact g_iret C F dL_directory_18 rfl rfl (by omega) (by omega) ⟨x15, _, rfl, Or.inl ⟨hin.1, hin.2, e15, x4, rfl, e4⟩, rfl⟩
  · refine g_callX C r hT mv_L_7 dL_directory_5 (c_X3_directoryX g.l hl E x ra rf rc y t R z0 z1 z2 z3 z6 z7 hrc hR hin) (wr := [(ja, aJ E 1 jf)]) (As := [.int y, .int t]) (rest := [.int x1, .ref ja]) (Spl.at [2] [0, 1] rfl rfl rfl) 0 rfl rfl rfl rfl (Nat.le_of_ble_eq_true rfl) (by decide) (by omega) (by omega) ⟨0, 10, 13, 13⟩ htab rfl (by decide) kw2_106 (fun z => ?_)
    change G E g [(ja, aJ E 1 jf), (x, .inr (5, [z0, z1, z2, z3, .ref ra, .int rc, z6, z7])), (ra, aI E (180) (rf))] _ _ 13 _ _
    refine g_astore C dL_directory_13 (by rw [hN]; decide) (lv' := [(4, .ref z), (0, .ref x), (1, .int y), (2, .int t), (3, .ref ja)]) rfl ?_
    refine g_iconst C dL_directory_15 (by decide) (fun x13 e13 => ?_)
    refine g_perm [1, 2, 0] rfl (ws' := [(x, .inr (5, [z0, z1, z2, z3, .ref ra, .int rc, z6, z7])), (ra, aI E (180) (rf)), (ja, aJ E 1 jf)]) rfl ?_
    exact g_iret C F dL_directory_16 rfl rfl (by omega) (by omega) ⟨x13, _, rfl, Or.inr ⟨hin, e13⟩, rfl⟩
