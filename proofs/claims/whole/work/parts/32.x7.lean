set_option maxHeartbeats 1000000 in
set_option maxRecDepth 10000 in
theorem c_X2_begin2 (l : Launch) (E : GE) (h ob cap : Nat) (of : Nat → Int32) (os x : Int32) (t mc ms : Nat) (hx : x.toInt = (t : Int)) (ht : t ≤ 200000) (hcp : cap ≤ 300000) (hm : t ≤ cap ∨ (1 ≤ mc ∧ max t (2 * cap) ≤ ms)) : Ctr l E yX2_begin cX2_begin 2 none 1 (mc) (ms) [.ref h, .int x] [(h, .inr (4, [.ref ob, .int os])), (ob, aB E (cap) (of))] (fun v w => v = none ∧ ∃ (q : Nat) (f2 : Nat → Int32) (s : Int32), s.toInt = 0 ∧ w = [(h, .inr (4, [.ref q, .int s])), (q, aB E (ocap cap t) f2)]) := by
  refine Ctr.intro (by decide) (Nat.le_of_ble_eq_true rfl) (fun g hgl hN C r F hi => ?_)
  subst hgl
  change G E g [(h, .inr (4, [.ref ob, .int os])), (ob, aB E (cap) (of))] 0 0 0 [(0, .ref h), (1, .int x)] []
  refine g_iload_n C dX2_begin_0 1 rfl ?_
  refine g_aload_n C dX2_begin_1 0 rfl ?_
  refine gf_X2_9 C 0 rfl rfl dX2_begin_2 ?_
  refine g_alenB C 1 rfl dX2_begin_5 (by omega) (fun x5 e5 => ?_)
  refine g_icmp_le C 26 dX2_begin_6 (by decide) (fun c6 => ?_) (fun c6 => ?_)
  · refine g_aload_n C dX2_begin_26 0 rfl ?_
    refine g_iconst C dX2_begin_27 (by decide) (fun x27 e27 => ?_)
    refine gp_X2_13 C 0 rfl (Nat.le_of_ble_eq_true rfl) rfl rfl dX2_begin_28 ?_
    change G E g [(h, .inr (4, [.ref ob, .int x27])), (ob, aB E (cap) (of))] _ _ _ _ _
    exact g_vret C F dX2_begin_31 (by omega) (by omega) (by rw [show ocap cap t = cap from by unfold ocap; rw [if_pos (by omega)]]; exact ⟨rfl, _, _, _, by omega, rfl⟩)
  · refine g_aload_n C dX2_begin_9 0 rfl ?_
    refine g_iload_n C dX2_begin_10 1 rfl ?_
    refine g_iconst C dX2_begin_11 (by decide) (fun x11 e11 => ?_)
    refine g_aload_n C dX2_begin_12 0 rfl ?_
    refine gf_X2_9 C 0 rfl rfl dX2_begin_13 ?_
    refine g_alenB C 1 rfl dX2_begin_16 (by omega) (fun x16 e16 => ?_)
    refine g_imul C dX2_begin_17 (2 * x16.toInt) (by rw [e11]) (by omega) (fun x17 e17 => ?_)
    refine g_mmax C r (by decide) kw_maxX2 dX2_begin_18 (Nat.le_of_ble_eq_true rfl) (by omega) (by omega) (fun x18 e18 => ?_)
    refine g_newB C r dX2_begin_21 (max t (2 * cap)) (by omega) (by omega) (by omega) (by omega) (fun q21 => ?_)
    change G E g [(h, .inr (4, [.ref ob, .int os])), (ob, aB E (cap) (of)), (q21, aB E (max t (2 * cap)) (fun _ => 0))] _ _ _ _ _
    refine gp_X2_9 C 0 rfl (Nat.le_of_ble_eq_true rfl) rfl rfl dX2_begin_23 ?_
    change G E g [(h, .inr (4, [.ref q21, .int os])), (ob, aB E (cap) (of)), (q21, aB E (max t (2 * cap)) (fun _ => 0))] _ _ _ _ _
    refine g_aload_n C dX2_begin_26 0 rfl ?_
    refine g_iconst C dX2_begin_27 (by decide) (fun x27 e27 => ?_)
    refine gp_X2_13 C 0 rfl (Nat.le_of_ble_eq_true rfl) rfl rfl dX2_begin_28 ?_
    change G E g [(h, .inr (4, [.ref q21, .int x27])), (ob, aB E (cap) (of)), (q21, aB E (max t (2 * cap)) (fun _ => 0))] _ _ _ _ _
    refine g_perm [0, 2] rfl (ws' := [(h, .inr (4, [.ref q21, .int x27])), (q21, aB E (max t (2 * cap)) (fun _ => 0))]) rfl ?_
    exact g_vret C F dX2_begin_31 (by omega) (by omega) (by rw [show ocap cap t = max t (2 * cap) from by unfold ocap; rw [if_neg (by omega)]]; exact ⟨rfl, _, _, _, by omega, rfl⟩)
set_option maxHeartbeats 1000000 in
set_option maxRecDepth 10000 in
theorem c_X3_emitLeaderBytes (l : Launch) (E : GE) (x op ob cap : Nat) (of : Nat → Int32) (os : Int32) (o : List Nat) (lb : Nat) (lf : Nat → Int32) (y z : Int32) (a e : Nat) (z0 z3 z4 z5 z6 z7 : Value) (hos : os.toInt = (o.length : Int)) (hB : Bs of 0 o) (hcp : cap ≤ 400000) (hy : y.toInt = (a : Int)) (hz : z.toInt = (e : Int)) (hae : a ≤ e) (he : e ≤ 24) (hl : o.length + (e - a) ≤ cap) : Ctr l E yX3_emitLeaderBytes cX3_emitLeaderBytes 5 none 1 (0) (0) [.ref x, .int y, .int z] [(x, .inr (5, [z0, .ref op, .ref lb, z3, z4, z5, z6, z7])), (op, .inr (4, [.ref ob, .int os])), (ob, aB E (cap) (of)), (lb, aB E (24) (lf))] (fun v w => v = none ∧ ∃ (f2 : Nat → Int32) (s : Int32), s.toInt = ((o ++ sl (ldB lf) a (e - a)).length : Int) ∧ Bs f2 0 (o ++ sl (ldB lf) a (e - a)) ∧ w = [(x, .inr (5, [z0, .ref op, .ref lb, z3, z4, z5, z6, z7])), (op, .inr (4, [.ref ob, .int s])), (ob, aB E (cap) (f2)), (lb, aB E (24) (lf))]) := by
  refine Ctr.intro (by decide) (Nat.le_of_ble_eq_true rfl) (fun g hgl hN C r F hi => ?_)
  subst hgl
  change G E g [(x, .inr (5, [z0, .ref op, .ref lb, z3, z4, z5, z6, z7])), (op, .inr (4, [.ref ob, .int os])), (ob, aB E (cap) (of)), (lb, aB E (24) (lf))] 0 0 0 [(0, .ref x), (1, .int y), (2, .int z)] []
  refine g_iload_n C dX3_emitLeaderBytes_0 1 rfl ?_
  refine g_istore_n C dX3_emitLeaderBytes_1 (by rw [hN]; decide) (lv' := [(3, .int y), (0, .ref x), (1, .int y), (2, .int z)]) rfl ?_
  have loop2 : ∀ (nn : Nat) (n3 : Int32) (sk : Int32) (fk : Nat → Int32) (k : Nat) (hm : e - (a + k) < nn) (hk : a + k ≤ e) (hp : n3.toInt = ((a + k : Nat) : Int)) (hs : sk.toInt = ((o ++ sl (ldB lf) a k).length : Int)) (hb : Bs fk 0 (o ++ sl (ldB lf) a k)), G E g [(x, .inr (5, [z0, .ref op, .ref lb, z3, z4, z5, z6, z7])), (op, .inr (4, [.ref ob, .int sk])), (ob, aB E (cap) (fk)), (lb, aB E (24) (lf))] 0 0 2 [(0, .ref x), (1, .int y), (2, .int z), (3, .int n3)] [] := by
    intro nn
    induction nn with
    | zero => intro n3 sk fk k hm hk hp hs hb; omega
    | succ nn ih2 =>
      intro n3 sk fk k hm hk hp hs hb
      refine g_iload_n C dX3_emitLeaderBytes_2 3 rfl ?_
      refine g_iload_n C dX3_emitLeaderBytes_3 2 rfl ?_
      refine g_icmp_ge C 43 dX3_emitLeaderBytes_4 (by decide) (fun c4 => ?_) (fun c4 => ?_)
      · exact g_vret C F dX3_emitLeaderBytes_43 (Nat.le_refl _) (Nat.le_refl _) (by refine ⟨rfl, _, _, ?_, ?_, rfl⟩; (rw [show e - a = k by omega]; exact hs); (rw [show e - a = k by omega]; exact hb))
      · refine g_iload_n C dX3_emitLeaderBytes_7 3 rfl ?_
        refine g_callS C r ms_X3_166 dX3_emitLeaderBytes_8 (c_X3_fixedByte g.l E n3) (wr := [(x, .inr (5, [z0, .ref op, .ref lb, z3, z4, z5, z6, z7])), (op, .inr (4, [.ref ob, .int sk])), (ob, aB E (cap) (fk)), (lb, aB E (24) (lf))]) (As := [.int n3]) (rest := []) (Spl.at [0, 1, 2, 3] [] rfl rfl rfl) rfl (Nat.le_of_ble_eq_true rfl) (by decide) (Nat.le_refl _) (Nat.le_refl _) (fun v w h => ?_)
        obtain ⟨x8, rfl, e8, rfl⟩ := h
        change G E g [(x, .inr (5, [z0, .ref op, .ref lb, z3, z4, z5, z6, z7])), (op, .inr (4, [.ref ob, .int sk])), (ob, aB E (cap) (fk)), (lb, aB E (24) (lf))] _ _ _ _ [.int x8]
        refine g_istore C dX3_emitLeaderBytes_11 (by rw [hN]; decide) (lv' := [(4, .int x8), (0, .ref x), (1, .int y), (2, .int z), (3, .int n3)]) rfl ?_
        refine g_aload_n C dX3_emitLeaderBytes_13 1 rfl ?_
        refine gf_X3_19 C 0 rfl rfl dX3_emitLeaderBytes_14 ?_
        have J34 : ∀ (q : Int32) (hzz : u8 q = ldB lf (a + k)), G E g [(x, .inr (5, [z0, .ref op, .ref lb, z3, z4, z5, z6, z7])), (op, .inr (4, [.ref ob, .int sk])), (ob, aB E (cap) (fk)), (lb, aB E (24) (lf))] 0 0 34 [(0, .ref x), (1, .int y), (2, .int z), (3, .int n3)] [.int q, .ref op] := by
          intro q hzz
          refine g_callV C r mv_X3_155 dX3_emitLeaderBytes_34 (c_X2_emit g.l E op ob (cap) fk sk (o ++ sl (ldB lf) a k) q hs hb (by omega) (by first | omega | (simp only [List.length_append, List.length_cons, List.length_nil, dg_len, drN_len, fdN_len, ldL_19, sl_len]; omega))) (wr := [(x, .inr (5, [z0, .ref op, .ref lb, z3, z4, z5, z6, z7])), (lb, aB E (24) (lf))]) (As := [.int q]) (rest := []) (Spl.at [0, 3] [1, 2] rfl rfl rfl) 0 rfl rfl rfl rfl (Nat.le_of_ble_eq_true rfl) (by decide) (Nat.le_refl _) (Nat.le_refl _) (fun v w h => ?_)
          obtain ⟨rfl, f34, s34, es34, eb34, rfl⟩ := h
          change G E g [(x, .inr (5, [z0, .ref op, .ref lb, z3, z4, z5, z6, z7])), (lb, aB E (24) (lf)), (op, .inr (4, [.ref ob, .int s34])), (ob, aB E (cap) (f34))] _ _ _ _ []
          refine g_iinc C dX3_emitLeaderBytes_37 3 rfl (by rw [hN]; decide) (by decide) (by omega) (fun x37 e37 => ?_)
          refine g_lvE (lv' := [(3, .int x37), (0, .ref x), (1, .int y), (2, .int z)]) rfl ?_
          refine g_goto C 2 dX3_emitLeaderBytes_40 (by decide) ?_
          refine g_lv [1, 2, 3, 0] (lv' := [(0, .ref x), (1, .int y), (2, .int z), (3, .int x37)]) rfl ?_
          refine g_perm [0, 2, 3, 1] rfl (ws' := [(x, .inr (5, [z0, .ref op, .ref lb, z3, z4, z5, z6, z7])), (op, .inr (4, [.ref ob, .int s34])), (ob, aB E (cap) (f34)), (lb, aB E (24) (lf))]) rfl ?_
          exact ih2 (x37) (s34) (f34) (k + 1) (by omega) (by omega) (by omega) (by rw [sl_s]; exact es34.trans (len_1 _ _)) (by rw [sl_s, ← hzz]; exact eb34)
        refine g_iload C dX3_emitLeaderBytes_17 0 rfl ?_
        refine g_iconst C dX3_emitLeaderBytes_19 (by decide) (fun x19 e19 => ?_)
        refine g_icmp_ne C 32 dX3_emitLeaderBytes_20 (by decide) (fun c20 => ?_) (fun c20 => ?_)
        · refine g_iload C dX3_emitLeaderBytes_32 0 rfl ?_
          refine g_lv [1, 2, 3, 4] (lv' := [(0, .ref x), (1, .int y), (2, .int z), (3, .int n3)]) rfl ?_
          exact J34 (x8) (by rcases e8 with h | h | h | h; (rw [ldB_50 (by omega)]; exact u8_of h.2 (by omega)); (rw [ldB_52 (by omega)]; exact u8_of h.2 (by omega)); (rw [ldB_53 (by omega)]; exact u8_of h.2 (by omega)); omega)
        · refine g_aload_n C dX3_emitLeaderBytes_23 1 rfl ?_
          refine gf_X3_23 C 0 rfl rfl dX3_emitLeaderBytes_24 ?_
          refine g_iload_n C dX3_emitLeaderBytes_27 4 rfl ?_
          refine g_baload C 3 rfl dX3_emitLeaderBytes_28 (a + k) (by omega) (by omega) (fun x28 e28 => ?_)
          refine g_goto C 34 dX3_emitLeaderBytes_29 (by decide) ?_
          refine g_lv [1, 2, 3, 4] (lv' := [(0, .ref x), (1, .int y), (2, .int z), (3, .int n3)]) rfl ?_
          exact J34 (x28) (by rw [ldB_o (by omega), e28])
  refine g_lv [1, 2, 3, 0] (lv' := [(0, .ref x), (1, .int y), (2, .int z), (3, .int y)]) rfl ?_
  exact loop2 _ (y) (os) (of) (0) (Nat.lt_succ_self _) (by omega) (by omega) (by rw [show sl (ldB lf) a 0 = [] from rfl, List.append_nil]; exact hos) (by rw [show sl (ldB lf) a 0 = [] from rfl, List.append_nil]; exact hB)
set_option maxHeartbeats 1000000 in
set_option maxRecDepth 10000 in
theorem c_X3_emitLeader (l : Launch) (E : GE) (x op ob cap : Nat) (of : Nat → Int32) (os : Int32) (lb : Nat) (lf : Nat → Int32) (y z : Int32) (all base : Nat) (z0 z3 z4 z5 z6 z7 : Value) (hos : os.toInt = 0) (hcp : cap ≤ 400000) (hy : y.toInt = (all : Int)) (hz : z.toInt = (base : Int)) (ha : all ≤ 400000) (hb : base ≤ 400000) (hl : 24 ≤ cap) : Ctr l E yX3_emitLeader cX3_emitLeader 3 none 2 (0) (0) [.ref x, .int y, .int z] [(x, .inr (5, [z0, .ref op, .ref lb, z3, z4, z5, z6, z7])), (op, .inr (4, [.ref ob, .int os])), (ob, aB E (cap) (of)), (lb, aB E (24) (lf))] (fun v w => v = none ∧ ∃ (f2 : Nat → Int32) (s : Int32), s.toInt = ((ldL lf all base 19).length : Int) ∧ Bs f2 0 (ldL lf all base 19) ∧ w = [(x, .inr (5, [z0, .ref op, .ref lb, z3, z4, z5, z6, z7])), (op, .inr (4, [.ref ob, .int s])), (ob, aB E (cap) (f2)), (lb, aB E (24) (lf))]) := by
  refine Ctr.intro (by decide) (Nat.le_of_ble_eq_true rfl) (fun g hgl hN C r F hi => ?_)
  subst hgl
  change G E g [(x, .inr (5, [z0, .ref op, .ref lb, z3, z4, z5, z6, z7])), (op, .inr (4, [.ref ob, .int os])), (ob, aB E (cap) (of)), (lb, aB E (24) (lf))] 0 0 0 [(0, .ref x), (1, .int y), (2, .int z)] []
  refine g_aload_n C dX3_emitLeader_0 0 rfl ?_
  refine gf_X3_19 C 0 rfl rfl dX3_emitLeader_1 ?_
  refine g_iload_n C dX3_emitLeader_4 1 rfl ?_
  refine g_iconst C dX3_emitLeader_5 (by decide) (fun x5 e5 => ?_)
  refine g_callV C r mv_X3_183 dX3_emitLeader_6 (c_X2_emitDigits g.l E op ob (cap) of os ([]) y x5 (all) 5 (by rw [hos]; rfl) (Bs_nil _ _) (by omega) (by omega) (by omega) (by decide) (by first | omega | (simp only [List.length_append, List.length_cons, List.length_nil, dg_len, drN_len, fdN_len, ldL_19, sl_len]; omega)) (by omega)) (wr := [(x, .inr (5, [z0, .ref op, .ref lb, z3, z4, z5, z6, z7])), (lb, aB E (24) (lf))]) (As := [.int y, .int x5]) (rest := []) (Spl.at [0, 3] [1, 2] rfl rfl rfl) 0 rfl rfl rfl rfl (Nat.le_of_ble_eq_true rfl) (by decide) (Nat.le_refl _) (Nat.le_refl _) (fun v w h => ?_)
  obtain ⟨rfl, f6, s6, es6, eb6, rfl⟩ := h
  change G E g [(x, .inr (5, [z0, .ref op, .ref lb, z3, z4, z5, z6, z7])), (lb, aB E (24) (lf)), (op, .inr (4, [.ref ob, .int s6])), (ob, aB E (cap) (f6))] _ _ _ _ []
  refine g_aload_n C dX3_emitLeader_9 0 rfl ?_
  refine g_iconst C dX3_emitLeader_10 (by decide) (fun x10 e10 => ?_)
  refine g_bipush C dX3_emitLeader_11 (by decide) (fun x11 e11 => ?_)
  refine g_callV C r mv_X3_186 dX3_emitLeader_13 (c_X3_emitLeaderBytes g.l E x op ob (cap) f6 s6 ([] ++ dg all 5) lb lf x10 x11 5 12 (z0) (z3) (z4) (z5) (z6) (z7) (es6.trans (len_dg _ _ _)) eb6 (by omega) (by omega) (by omega) (by decide) (by decide) (by first | omega | (simp only [List.length_append, List.length_cons, List.length_nil, dg_len, sl_len]; omega))) (wr := []) (As := [.int x10, .int x11]) (rest := []) (Spl.at [] [0, 2, 3, 1] rfl rfl rfl) 0 rfl rfl rfl rfl (Nat.le_of_ble_eq_true rfl) (by decide) (Nat.le_refl _) (Nat.le_refl _) (fun v w h => ?_)
  obtain ⟨rfl, f13, s13, es13, eb13, rfl⟩ := h
  change G E g [(x, .inr (5, [z0, .ref op, .ref lb, z3, z4, z5, z6, z7])), (op, .inr (4, [.ref ob, .int s13])), (ob, aB E (cap) (f13)), (lb, aB E (24) (lf))] _ _ _ _ []
  refine g_aload_n C dX3_emitLeader_16 0 rfl ?_
  refine gf_X3_19 C 0 rfl rfl dX3_emitLeader_17 ?_
  refine g_iload_n C dX3_emitLeader_20 2 rfl ?_
  refine g_iconst C dX3_emitLeader_21 (by decide) (fun x21 e21 => ?_)
  refine g_callV C r mv_X3_183 dX3_emitLeader_22 (c_X2_emitDigits g.l E op ob (cap) f13 s13 ([] ++ dg all 5 ++ sl (ldB lf) 5 (12 - 5)) z x21 (base) 5 es13 eb13 (by omega) (by omega) (by omega) (by decide) (by first | omega | (simp only [List.length_append, List.length_cons, List.length_nil, dg_len, drN_len, fdN_len, ldL_19, sl_len]; omega)) (by omega)) (wr := [(x, .inr (5, [z0, .ref op, .ref lb, z3, z4, z5, z6, z7])), (lb, aB E (24) (lf))]) (As := [.int z, .int x21]) (rest := []) (Spl.at [0, 3] [1, 2] rfl rfl rfl) 0 rfl rfl rfl rfl (Nat.le_of_ble_eq_true rfl) (by decide) (Nat.le_refl _) (Nat.le_refl _) (fun v w h => ?_)
  obtain ⟨rfl, f22, s22, es22, eb22, rfl⟩ := h
  change G E g [(x, .inr (5, [z0, .ref op, .ref lb, z3, z4, z5, z6, z7])), (lb, aB E (24) (lf)), (op, .inr (4, [.ref ob, .int s22])), (ob, aB E (cap) (f22))] _ _ _ _ []
  refine g_aload_n C dX3_emitLeader_25 0 rfl ?_
  refine g_bipush C dX3_emitLeader_26 (by decide) (fun x26 e26 => ?_)
  refine g_bipush C dX3_emitLeader_28 (by decide) (fun x28 e28 => ?_)
  refine g_callV C r mv_X3_186 dX3_emitLeader_30 (c_X3_emitLeaderBytes g.l E x op ob (cap) f22 s22 ([] ++ dg all 5 ++ sl (ldB lf) 5 (12 - 5) ++ dg base 5) lb lf x26 x28 17 24 (z0) (z3) (z4) (z5) (z6) (z7) (es22.trans (len_dg _ _ _)) eb22 (by omega) (by omega) (by omega) (by decide) (by decide) (by first | omega | (simp only [List.length_append, List.length_cons, List.length_nil, dg_len, sl_len]; omega))) (wr := []) (As := [.int x26, .int x28]) (rest := []) (Spl.at [] [0, 2, 3, 1] rfl rfl rfl) 0 rfl rfl rfl rfl (Nat.le_of_ble_eq_true rfl) (by decide) (Nat.le_refl _) (Nat.le_refl _) (fun v w h => ?_)
  obtain ⟨rfl, f30, s30, es30, eb30, rfl⟩ := h
  change G E g [(x, .inr (5, [z0, .ref op, .ref lb, z3, z4, z5, z6, z7])), (op, .inr (4, [.ref ob, .int s30])), (ob, aB E (cap) (f30)), (lb, aB E (24) (lf))] _ _ _ _ []
  exact g_vret C F dX3_emitLeader_33 (Nat.le_refl _) (Nat.le_refl _) (by refine ⟨rfl, _, _, ?_, ?_, rfl⟩; (rw [ldL_sl]; exact es30); (rw [ldL_sl]; exact eb30))
set_option maxHeartbeats 2000000 in
set_option maxRecDepth 10000 in
theorem c_X3_emitDirectory (l : Launch) (E : GE) (x op ob cap : Nat) (of : Nat → Int32) (os : Int32) (o : List Nat) (fa : Nat) (ga : Nat → Option Nat) (fo : Nat → Nat) (fd : Nat → FV) (fl : FL) (pr fc : Int32) (z0 z2 z4 z5 : Value) (hos : os.toInt = (o.length : Int)) (hB : Bs of 0 o) (hcp : cap ≤ 400000) (hX : XPr pr fc fd fl) (hF : FW fl) (hga : ∀ j, j < 60 → ga j = some (fo j)) (hl : o.length + 12 * fl.length + 1 ≤ cap) : Ctr l E yX3_emitDirectory cX3_emitDirectory 4 none 3 (0) (0) [.ref x] ([(x, .inr (5, [z0, .ref op, z2, .ref fa, z4, z5, .int pr, .int fc])), (op, .inr (4, [.ref ob, .int os])), (ob, aB E (cap) (of)), (fa, aF E (60) (ga))] ++ zz E fo fd R60) (fun v w => v = none ∧ ∃ (f2 : Nat → Int32) (s : Int32), s.toInt = ((o ++ drN fl fl.length ++ [30]).length : Int) ∧ Bs f2 0 (o ++ drN fl fl.length ++ [30]) ∧ w = ([(x, .inr (5, [z0, .ref op, z2, .ref fa, z4, z5, .int pr, .int fc])), (op, .inr (4, [.ref ob, .int s])), (ob, aB E (cap) (f2)), (fa, aF E (60) (ga))] ++ zz E fo fd R60)) := by
  refine Ctr.intro (by decide) (Nat.le_of_ble_eq_true rfl) (fun g hgl hN C r F hi => ?_)
  subst hgl
  have hfl := hF.1
  obtain ⟨hpr, hfc, hXF, hFG⟩ := hX
  have hst := stt_le hF fl.length (Nat.le_refl _)
  change G E g ([(x, .inr (5, [z0, .ref op, z2, .ref fa, z4, z5, .int pr, .int fc])), (op, .inr (4, [.ref ob, .int os])), (ob, aB E (cap) (of)), (fa, aF E (60) (ga))] ++ zz E fo fd R60) 0 0 0 [(0, .ref x)] []
  refine g_iconst C dX3_emitDirectory_0 (by decide) (fun x0 e0 => ?_)
  refine g_istore_n C dX3_emitDirectory_1 (by rw [hN]; decide) (lv' := [(1, .int x0), (0, .ref x)]) rfl ?_
  refine g_iconst C dX3_emitDirectory_2 (by decide) (fun x2 e2 => ?_)
  refine g_istore_n C dX3_emitDirectory_3 (by rw [hN]; decide) (lv' := [(2, .int x2), (1, .int x0), (0, .ref x)]) rfl ?_
  have loop4 : ∀ (nn : Nat) (n1 : Int32) (n2 : Int32) (sk : Int32) (fk : Nat → Int32) (k : Nat) (hm : fl.length - k < nn) (hk : k ≤ fl.length) (hp : n2.toInt = (k : Int)) (h1 : n1.toInt = (stt fl k : Int)) (hs : sk.toInt = ((o ++ drN fl k).length : Int)) (hb : Bs fk 0 (o ++ drN fl k)), G E g ([(x, .inr (5, [z0, .ref op, z2, .ref fa, z4, z5, .int pr, .int fc])), (op, .inr (4, [.ref ob, .int sk])), (ob, aB E (cap) (fk)), (fa, aF E (60) (ga))] ++ zz E fo fd R60) 0 0 4 [(0, .ref x), (1, .int n1), (2, .int n2)] [] := by
    intro nn
    induction nn with
    | zero => intro n1 n2 sk fk k hm hk hp h1 hs hb; omega
    | succ nn ih4 =>
      intro n1 n2 sk fk k hm hk hp h1 hs hb
      have hsk := stt_mono fl hk
      refine g_iload_n C dX3_emitDirectory_4 2 rfl ?_
      refine g_aload_n C dX3_emitDirectory_5 0 rfl ?_
      refine gf_X3_46 C 0 rfl rfl dX3_emitDirectory_6 ?_
      refine g_icmp_ge C 67 dX3_emitDirectory_9 (by decide) (fun c9 => ?_) (fun c9 => ?_)
      · obtain rfl : k = fl.length := by omega
        refine g_aload_n C dX3_emitDirectory_67 0 rfl ?_
        refine gf_X3_19 C 0 rfl rfl dX3_emitDirectory_68 ?_
        refine g_bipush C dX3_emitDirectory_71 (by decide) (fun x71 e71 => ?_)
        refine g_callV C r mv_X3_155 dX3_emitDirectory_73 (c_X2_emit g.l E op ob (cap) fk sk (o ++ drN fl fl.length) x71 hs hb (by omega) (by first | omega | (simp only [List.length_append, List.length_cons, List.length_nil, dg_len, drN_len, fdN_len, ldL_19, sl_len]; omega))) (wr := ([(x, .inr (5, [z0, .ref op, z2, .ref fa, z4, z5, .int pr, .int fc])), (fa, aF E (60) (ga))] ++ zz E fo fd R60)) (As := [.int x71]) (rest := []) (Spl.atZ [0, 3] [1, 2] rfl rfl rfl) 0 rfl rfl rfl rfl (Nat.le_of_ble_eq_true rfl) (by decide) (Nat.le_refl _) (Nat.le_refl _) (fun v w h => ?_)
        obtain ⟨rfl, f73, s73, es73, eb73, rfl⟩ := h
        refine g_tail ?_
        change G E g ([(x, .inr (5, [z0, .ref op, z2, .ref fa, z4, z5, .int pr, .int fc])), (fa, aF E (60) (ga)), (op, .inr (4, [.ref ob, .int s73])), (ob, aB E (cap) (f73))] ++ zz E fo fd R60) _ _ _ _ []
        rw [u8_of (n := 30) e71 (by omega)] at eb73
        refine g_permZ [0, 2, 3, 1] rfl (ws' := [(x, .inr (5, [z0, .ref op, z2, .ref fa, z4, z5, .int pr, .int fc])), (op, .inr (4, [.ref ob, .int s73])), (ob, aB E (cap) (f73)), (fa, aF E (60) (ga))]) rfl rfl ?_
        exact g_vret C F dX3_emitDirectory_76 (Nat.le_refl _) (Nat.le_refl _) (by exact ⟨rfl, _, _, es73.trans (len_1 _ _), eb73, rfl⟩)
      · refine g_aload_n C dX3_emitDirectory_12 0 rfl ?_
        refine gf_X3_29 C 0 rfl rfl dX3_emitDirectory_13 ?_
        refine g_iload_n C dX3_emitDirectory_16 2 rfl ?_
        refine g_aaload C 3 rfl dX3_emitDirectory_17 (k) (by omega) (by omega) (r := (fo (k))) (hga _ (by omega)) ?_
        rcases hfd : fd (k) with ⟨tg, f1, f2, sz, su, bq, cp, ff⟩
        obtain ⟨qT, qL, qB, qS, qC, qI⟩ := XF_at hXF (i := k) (by omega) hfd
        obtain ⟨hW1, hW2, hW3, hW4, hW5⟩ := hF.2 (k) (by omega)
        obtain ⟨gB, gC, gD⟩ := FG_at hFG (i := k) (by omega) hfd
        refine g_focus (X := [(x, .inr (5, [z0, .ref op, z2, .ref fa, z4, z5, .int pr, .int fc])), (op, .inr (4, [.ref ob, .int sk])), (ob, aB E (cap) (fk)), (fa, aF E (60) (ga))]) (k) (by omega) hfd ?_
        change G E g ([(x, .inr (5, [z0, .ref op, z2, .ref fa, z4, z5, .int pr, .int fc])), (op, .inr (4, [.ref ob, .int sk])), (ob, aB E (cap) (fk)), (fa, aF E (60) (ga)), ((fo (k)), .inr (2, [.int tg, .int f1, .int f2, .ref bq, .int sz, .int su])), (bq, aB E (cp) (ff))] ++ zz E fo fd (R60.erase (k))) _ _ _ _ _
        have hbl := bdy_len (t := fT fl k) (bd := fB fl k) (fun h => (hW4 h).1)
        refine g_callV C r mv_X3_139 dX3_emitDirectory_18 (c_X0_writtenSize g.l E (fo (k)) bq tg f1 f2 sz su (by omega)) (wr := ([(x, .inr (5, [z0, .ref op, z2, .ref fa, z4, z5, .int pr, .int fc])), (op, .inr (4, [.ref ob, .int sk])), (ob, aB E (cap) (fk)), (fa, aF E (60) (ga)), (bq, aB E (cp) (ff))] ++ zz E fo fd (R60.erase (k)))) (As := []) (rest := []) (Spl.atZ [0, 1, 2, 3, 5] [4] rfl rfl rfl) 0 rfl rfl rfl rfl (Nat.le_of_ble_eq_true rfl) (by decide) (Nat.le_refl _) (Nat.le_refl _) (fun v w h => ?_)
        obtain ⟨x18, rfl, e18, rfl⟩ := h
        refine g_tail ?_
        change G E g ([(x, .inr (5, [z0, .ref op, z2, .ref fa, z4, z5, .int pr, .int fc])), (op, .inr (4, [.ref ob, .int sk])), (ob, aB E (cap) (fk)), (fa, aF E (60) (ga)), (bq, aB E (cp) (ff)), ((fo (k)), .inr (2, [.int tg, .int f1, .int f2, .ref bq, .int sz, .int su]))] ++ zz E fo fd (R60.erase (k))) _ _ _ _ [.int x18]
        have hx18 : x18.toInt = (((fB fl k).length + 1 : Nat) : Int) := by omega
        have hsk1 := stt_mono fl (m := k + 1) (n := fl.length) (by omega)
        simp only [stt] at hsk1
        refine g_istore_n C dX3_emitDirectory_21 (by rw [hN]; decide) (lv' := [(3, .int x18), (0, .ref x), (1, .int n1), (2, .int n2)]) rfl ?_
        refine g_aload_n C dX3_emitDirectory_22 1 rfl ?_
        refine gf_X3_19 C 0 rfl rfl dX3_emitDirectory_23 ?_
        refine g_aload_n C dX3_emitDirectory_26 1 rfl ?_
        refine gf_X3_29 C 0 rfl rfl dX3_emitDirectory_27 ?_
        refine g_iload_n C dX3_emitDirectory_30 3 rfl ?_
        refine g_aaload C 3 rfl dX3_emitDirectory_31 (k) (by omega) (by omega) (r := (fo (k))) (hga _ (by omega)) ?_
        refine gf_X3_78 C 5 rfl rfl dX3_emitDirectory_32 ?_
        refine g_iconst C dX3_emitDirectory_35 (by decide) (fun x35 e35 => ?_)
        refine g_callV C r mv_X3_183 dX3_emitDirectory_36 (c_X2_emitDigits g.l E op ob (cap) fk sk (o ++ drN fl k) tg x35 (fT fl k) 3 hs hb (by omega) (by omega) (by omega) (by decide) (by first | omega | (simp only [List.length_append, List.length_cons, List.length_nil, dg_len, drN_len, fdN_len, ldL_19, sl_len]; omega)) (by omega)) (wr := ([(x, .inr (5, [z0, .ref op, z2, .ref fa, z4, z5, .int pr, .int fc])), (fa, aF E (60) (ga)), (bq, aB E (cp) (ff)), ((fo (k)), .inr (2, [.int tg, .int f1, .int f2, .ref bq, .int sz, .int su]))] ++ zz E fo fd (R60.erase (k)))) (As := [.int tg, .int x35]) (rest := []) (Spl.atZ [0, 3, 4, 5] [1, 2] rfl rfl rfl) 0 rfl rfl rfl rfl (Nat.le_of_ble_eq_true rfl) (by decide) (Nat.le_refl _) (Nat.le_refl _) (fun v w h => ?_)
        obtain ⟨rfl, f36, s36, es36, eb36, rfl⟩ := h
        refine g_tail ?_
        change G E g ([(x, .inr (5, [z0, .ref op, z2, .ref fa, z4, z5, .int pr, .int fc])), (fa, aF E (60) (ga)), (bq, aB E (cp) (ff)), ((fo (k)), .inr (2, [.int tg, .int f1, .int f2, .ref bq, .int sz, .int su])), (op, .inr (4, [.ref ob, .int s36])), (ob, aB E (cap) (f36))] ++ zz E fo fd (R60.erase (k))) _ _ _ _ []
        refine g_aload_n C dX3_emitDirectory_39 1 rfl ?_
        refine gf_X3_19 C 0 rfl rfl dX3_emitDirectory_40 ?_
        refine g_iload_n C dX3_emitDirectory_43 0 rfl ?_
        refine g_iconst C dX3_emitDirectory_44 (by decide) (fun x44 e44 => ?_)
        refine g_callV C r mv_X3_183 dX3_emitDirectory_45 (c_X2_emitDigits g.l E op ob (cap) f36 s36 (o ++ drN fl k ++ dg (fT fl k) 3) x18 x44 ((fB fl k).length + 1) 4 (es36.trans (len_dg _ _ _)) eb36 (by omega) (by omega) (by omega) (by decide) (by first | omega | (simp only [List.length_append, List.length_cons, List.length_nil, dg_len, drN_len, fdN_len, ldL_19, sl_len]; omega)) (by omega)) (wr := ([(x, .inr (5, [z0, .ref op, z2, .ref fa, z4, z5, .int pr, .int fc])), (fa, aF E (60) (ga)), (bq, aB E (cp) (ff)), ((fo (k)), .inr (2, [.int tg, .int f1, .int f2, .ref bq, .int sz, .int su]))] ++ zz E fo fd (R60.erase (k)))) (As := [.int x18, .int x44]) (rest := []) (Spl.atZ [0, 1, 2, 3] [4, 5] rfl rfl rfl) 0 rfl rfl rfl rfl (Nat.le_of_ble_eq_true rfl) (by decide) (Nat.le_refl _) (Nat.le_refl _) (fun v w h => ?_)
        obtain ⟨rfl, f45, s45, es45, eb45, rfl⟩ := h
        refine g_tail ?_
        change G E g ([(x, .inr (5, [z0, .ref op, z2, .ref fa, z4, z5, .int pr, .int fc])), (fa, aF E (60) (ga)), (bq, aB E (cp) (ff)), ((fo (k)), .inr (2, [.int tg, .int f1, .int f2, .ref bq, .int sz, .int su])), (op, .inr (4, [.ref ob, .int s45])), (ob, aB E (cap) (f45))] ++ zz E fo fd (R60.erase (k))) _ _ _ _ []
        refine g_aload_n C dX3_emitDirectory_48 1 rfl ?_
        refine gf_X3_19 C 0 rfl rfl dX3_emitDirectory_49 ?_
        refine g_iload_n C dX3_emitDirectory_52 2 rfl ?_
        refine g_iconst C dX3_emitDirectory_53 (by decide) (fun x53 e53 => ?_)
        refine g_callV C r mv_X3_183 dX3_emitDirectory_54 (c_X2_emitDigits g.l E op ob (cap) f45 s45 (o ++ drN fl k ++ dg (fT fl k) 3 ++ dg ((fB fl k).length + 1) 4) n1 x53 (stt fl k) 5 (es45.trans (len_dg _ _ _)) eb45 (by omega) (by omega) (by omega) (by decide) (by first | omega | (simp only [List.length_append, List.length_cons, List.length_nil, dg_len, drN_len, fdN_len, ldL_19, sl_len]; omega)) (by omega)) (wr := ([(x, .inr (5, [z0, .ref op, z2, .ref fa, z4, z5, .int pr, .int fc])), (fa, aF E (60) (ga)), (bq, aB E (cp) (ff)), ((fo (k)), .inr (2, [.int tg, .int f1, .int f2, .ref bq, .int sz, .int su]))] ++ zz E fo fd (R60.erase (k)))) (As := [.int n1, .int x53]) (rest := []) (Spl.atZ [0, 1, 2, 3] [4, 5] rfl rfl rfl) 0 rfl rfl rfl rfl (Nat.le_of_ble_eq_true rfl) (by decide) (Nat.le_refl _) (Nat.le_refl _) (fun v w h => ?_)
        obtain ⟨rfl, f54, s54, es54, eb54, rfl⟩ := h
        refine g_tail ?_
        change G E g ([(x, .inr (5, [z0, .ref op, z2, .ref fa, z4, z5, .int pr, .int fc])), (fa, aF E (60) (ga)), (bq, aB E (cp) (ff)), ((fo (k)), .inr (2, [.int tg, .int f1, .int f2, .ref bq, .int sz, .int su])), (op, .inr (4, [.ref ob, .int s54])), (ob, aB E (cap) (f54))] ++ zz E fo fd (R60.erase (k))) _ _ _ _ []
        refine g_permZ [0, 1, 4, 5, 3, 2] rfl (ws' := [(x, .inr (5, [z0, .ref op, z2, .ref fa, z4, z5, .int pr, .int fc])), (fa, aF E (60) (ga)), (op, .inr (4, [.ref ob, .int s54])), (ob, aB E (cap) (f54)), ((fo (k)), .inr (2, [.int tg, .int f1, .int f2, .ref bq, .int sz, .int su])), (bq, aB E (cp) (ff))]) rfl rfl ?_
        refine g_unfocus0 (X := [(x, .inr (5, [z0, .ref op, z2, .ref fa, z4, z5, .int pr, .int fc])), (fa, aF E (60) (ga)), (op, .inr (4, [.ref ob, .int s54])), (ob, aB E (cap) (f54))]) (k) (by omega) hfd ?_
        change G E g ([(x, .inr (5, [z0, .ref op, z2, .ref fa, z4, z5, .int pr, .int fc])), (fa, aF E (60) (ga)), (op, .inr (4, [.ref ob, .int s54])), (ob, aB E (cap) (f54))] ++ zz E fo fd R60) _ _ _ _ _
        refine g_iload_n C dX3_emitDirectory_57 2 rfl ?_
        refine g_iload_n C dX3_emitDirectory_58 0 rfl ?_
        refine g_iadd C dX3_emitDirectory_59 (by omega) (fun x59 e59 => ?_)
        refine g_istore_n C dX3_emitDirectory_60 (by rw [hN]; decide) (lv' := [(1, .int x59), (3, .int x18), (0, .ref x), (2, .int n2)]) rfl ?_
        refine g_iinc C dX3_emitDirectory_61 3 rfl (by rw [hN]; decide) (by decide) (by omega) (fun x61 e61 => ?_)
        refine g_lvE (lv' := [(2, .int x61), (1, .int x59), (3, .int x18), (0, .ref x)]) rfl ?_
        refine g_goto C 4 dX3_emitDirectory_64 (by decide) ?_
        refine g_lv [3, 1, 0] (lv' := [(0, .ref x), (1, .int x59), (2, .int x61)]) rfl ?_
        refine g_permZ [0, 2, 3, 1] rfl (ws' := [(x, .inr (5, [z0, .ref op, z2, .ref fa, z4, z5, .int pr, .int fc])), (op, .inr (4, [.ref ob, .int s54])), (ob, aB E (cap) (f54)), (fa, aF E (60) (ga))]) rfl rfl ?_
        exact ih4 (x59) (x61) (s54) (f54) (k + 1) (by omega) (by omega) (by omega) (by simp only [stt]; omega) (by rw [drN_s]; exact es54.trans (len_dg _ _ _)) (by rw [drN_s]; exact eb54)
  refine g_lv [2, 1, 0] (lv' := [(0, .ref x), (1, .int x0), (2, .int x2)]) rfl ?_
  exact loop4 _ (x0) (x2) (os) (of) (0) (Nat.lt_succ_self _) (by omega) (by omega) (by rw [e0]; rfl) (by rw [show drN fl 0 = [] from rfl, List.append_nil]; exact hos) (by rw [show drN fl 0 = [] from rfl, List.append_nil]; exact hB)
set_option maxHeartbeats 2000000 in
set_option maxRecDepth 10000 in
theorem c_X3_emitField (l : Launch) (E : GE) (x op ob cap : Nat) (of : Nat → Int32) (os : Int32) (o : List Nat) (h bq cp : Nat) (ff : Nat → Int32) (tg f1 f2 sz su : Int32) (tag : Nat) (bd : List Nat) (z0 z2 z3 z4 z5 z6 z7 : Value) (hos : os.toInt = (o.length : Int)) (hB : Bs of 0 o) (hcp : cap ≤ 400000) (qT : tg.toInt = (tag : Int)) (qL : sz.toInt = ((bdy tag bd).length : Int)) (qB : Bs ff 0 (bdy tag bd)) (qC : (bdy tag bd).length ≤ cp) (qI : 9 < tag → f1.toInt = (bd.getD 0 0 : Int) ∧ f2.toInt = (bd.getD 1 0 : Int)) (h8 : B8 bd) (h2 : 9 < tag → 2 ≤ bd.length) (gD : cp ≤ 4000) (hl : o.length + bd.length + 1 ≤ cap) : Ctr l E yX3_emitField cX3_emitField 3 none 2 (0) (0) [.ref x, .ref h] [(x, .inr (5, [z0, .ref op, z2, z3, z4, z5, z6, z7])), (op, .inr (4, [.ref ob, .int os])), (ob, aB E (cap) (of)), (h, .inr (2, [.int tg, .int f1, .int f2, .ref bq, .int sz, .int su])), (bq, aB E (cp) (ff))] (fun v w => v = none ∧ ∃ (g2 : Nat → Int32) (s : Int32), s.toInt = ((o ++ bd ++ [30]).length : Int) ∧ Bs g2 0 (o ++ bd ++ [30]) ∧ w = [(x, .inr (5, [z0, .ref op, z2, z3, z4, z5, z6, z7])), (op, .inr (4, [.ref ob, .int s])), (ob, aB E (cap) (g2)), (h, .inr (2, [.int tg, .int f1, .int f2, .ref bq, .int sz, .int su])), (bq, aB E (cp) (ff))]) := by
  refine Ctr.intro (by decide) (Nat.le_of_ble_eq_true rfl) (fun g hgl hN C r F hi => ?_)
  subst hgl
  have hbl := bdy_len h2
  change G E g [(x, .inr (5, [z0, .ref op, z2, z3, z4, z5, z6, z7])), (op, .inr (4, [.ref ob, .int os])), (ob, aB E (cap) (of)), (h, .inr (2, [.int tg, .int f1, .int f2, .ref bq, .int sz, .int su])), (bq, aB E (cp) (ff))] 0 0 0 [(0, .ref x), (1, .ref h)] []
  refine g_aload_n C dX3_emitField_0 1 rfl ?_
  refine gf_X3_78 C 3 rfl rfl dX3_emitField_1 ?_
  refine g_callS C r ms_X3_85 dX3_emitField_4 (c_X3_isControl g.l E tg) (wr := [(x, .inr (5, [z0, .ref op, z2, z3, z4, z5, z6, z7])), (op, .inr (4, [.ref ob, .int os])), (ob, aB E (cap) (of)), (h, .inr (2, [.int tg, .int f1, .int f2, .ref bq, .int sz, .int su])), (bq, aB E (cp) (ff))]) (As := [.int tg]) (rest := []) (Spl.at [0, 1, 2, 3, 4] [] rfl rfl rfl) rfl (Nat.le_of_ble_eq_true rfl) (by decide) (Nat.le_refl _) (Nat.le_refl _) (fun v w h => ?_)
  obtain ⟨x4, rfl, e4, rfl⟩ := h
  change G E g [(x, .inr (5, [z0, .ref op, z2, z3, z4, z5, z6, z7])), (op, .inr (4, [.ref ob, .int os])), (ob, aB E (cap) (of)), (h, .inr (2, [.int tg, .int f1, .int f2, .ref bq, .int sz, .int su])), (bq, aB E (cp) (ff))] _ _ _ _ [.int x4]
  have J32 : ∀ (s0 : Int32) (g0 : Nat → Int32) (hs0 : s0.toInt = ((o ++ (if tag ≤ 9 then [] else [bd.getD 0 0] ++ [bd.getD 1 0])).length : Int)) (hb0 : Bs g0 0 (o ++ (if tag ≤ 9 then [] else [bd.getD 0 0] ++ [bd.getD 1 0]))), G E g [(x, .inr (5, [z0, .ref op, z2, z3, z4, z5, z6, z7])), (op, .inr (4, [.ref ob, .int s0])), (ob, aB E (cap) (g0)), (h, .inr (2, [.int tg, .int f1, .int f2, .ref bq, .int sz, .int su])), (bq, aB E (cp) (ff))] 0 0 32 [(0, .ref x), (1, .ref h)] [] := by
    intro s0 g0 hs0 hb0
    refine g_iconst C dX3_emitField_32 (by decide) (fun x32 e32 => ?_)
    refine g_istore_n C dX3_emitField_33 (by rw [hN]; decide) (lv' := [(2, .int x32), (0, .ref x), (1, .ref h)]) rfl ?_
    have loop34 : ∀ (nn : Nat) (n2 : Int32) (sk : Int32) (fk : Nat → Int32) (j : Nat) (hm : (bdy tag bd).length - j < nn) (hj : j ≤ (bdy tag bd).length) (hp : n2.toInt = (j : Int)) (hs : sk.toInt = ((o ++ (if tag ≤ 9 then [] else [bd.getD 0 0] ++ [bd.getD 1 0]) ++ (bdy tag bd).take j).length : Int)) (hb : Bs fk 0 (o ++ (if tag ≤ 9 then [] else [bd.getD 0 0] ++ [bd.getD 1 0]) ++ (bdy tag bd).take j)), G E g [(x, .inr (5, [z0, .ref op, z2, z3, z4, z5, z6, z7])), (op, .inr (4, [.ref ob, .int sk])), (ob, aB E (cap) (fk)), (h, .inr (2, [.int tg, .int f1, .int f2, .ref bq, .int sz, .int su])), (bq, aB E (cp) (ff))] 0 0 34 [(0, .ref x), (1, .ref h), (2, .int n2)] [] := by
      intro nn
      induction nn with
      | zero => intro n2 sk fk j hm hj hp hs hb; omega
      | succ nn ih34 =>
        intro n2 sk fk j hm hj hp hs hb
        have htk : ((bdy tag bd).take j).length = j := by rw [List.length_take]; omega
        have hil : ((if tag ≤ 9 then [] else [bd.getD 0 0] ++ [bd.getD 1 0])).length + (bdy tag bd).length = bd.length := by rcases hbl with q | q; (rw [if_pos q.1]; simp; omega); (rw [if_neg (by omega)]; simp; omega)
        refine g_iload_n C dX3_emitField_34 2 rfl ?_
        refine g_aload_n C dX3_emitField_35 1 rfl ?_
        refine gf_X3_189 C 3 rfl rfl dX3_emitField_36 ?_
        refine g_icmp_ge C 60 dX3_emitField_39 (by decide) (fun c39 => ?_) (fun c39 => ?_)
        · obtain rfl : j = (bdy tag bd).length := by omega
          rw [List.take_length, ef_all hbl] at hs hb
          have hs9 := hs
          have hb9 := hb
          refine g_aload_n C dX3_emitField_60 0 rfl ?_
          refine gf_X3_19 C 0 rfl rfl dX3_emitField_61 ?_
          refine g_bipush C dX3_emitField_64 (by decide) (fun x64 e64 => ?_)
          refine g_callV C r mv_X3_155 dX3_emitField_66 (c_X2_emit g.l E op ob (cap) fk sk (o ++ bd) x64 hs9 hb9 (by omega) (by first | omega | (simp only [List.length_append, List.length_cons, List.length_nil, dg_len, drN_len, fdN_len, ldL_19, sl_len]; omega))) (wr := [(x, .inr (5, [z0, .ref op, z2, z3, z4, z5, z6, z7])), (h, .inr (2, [.int tg, .int f1, .int f2, .ref bq, .int sz, .int su])), (bq, aB E (cp) (ff))]) (As := [.int x64]) (rest := []) (Spl.at [0, 3, 4] [1, 2] rfl rfl rfl) 0 rfl rfl rfl rfl (Nat.le_of_ble_eq_true rfl) (by decide) (Nat.le_refl _) (Nat.le_refl _) (fun v w h => ?_)
          obtain ⟨rfl, f66, s66, es66, eb66, rfl⟩ := h
          change G E g [(x, .inr (5, [z0, .ref op, z2, z3, z4, z5, z6, z7])), (h, .inr (2, [.int tg, .int f1, .int f2, .ref bq, .int sz, .int su])), (bq, aB E (cp) (ff)), (op, .inr (4, [.ref ob, .int s66])), (ob, aB E (cap) (f66))] _ _ _ _ []
          rw [u8_of (n := 30) e64 (by omega)] at eb66
          refine g_perm [0, 3, 4, 1, 2] rfl (ws' := [(x, .inr (5, [z0, .ref op, z2, z3, z4, z5, z6, z7])), (op, .inr (4, [.ref ob, .int s66])), (ob, aB E (cap) (f66)), (h, .inr (2, [.int tg, .int f1, .int f2, .ref bq, .int sz, .int su])), (bq, aB E (cp) (ff))]) rfl ?_
          exact g_vret C F dX3_emitField_69 (Nat.le_refl _) (Nat.le_refl _) (by exact ⟨rfl, _, _, es66.trans (len_1 _ _), eb66, rfl⟩)
        · refine g_aload_n C dX3_emitField_42 0 rfl ?_
          refine gf_X3_19 C 0 rfl rfl dX3_emitField_43 ?_
          refine g_aload_n C dX3_emitField_46 1 rfl ?_
          refine g_iload_n C dX3_emitField_47 2 rfl ?_
          refine g_callV C r mv_X3_95 dX3_emitField_48 (c_X0_at' g.l E h bq cp ff tg f1 f2 sz su (bdy tag bd) n2 (j) qL qB (bdy_8 h8) qC (by omega) (by omega) (by omega)) (wr := [(x, .inr (5, [z0, .ref op, z2, z3, z4, z5, z6, z7])), (op, .inr (4, [.ref ob, .int sk])), (ob, aB E (cap) (fk))]) (As := [.int n2]) (rest := [.ref op]) (Spl.at [0, 1, 2] [3, 4] rfl rfl rfl) 0 rfl rfl rfl rfl (Nat.le_of_ble_eq_true rfl) (by decide) (Nat.le_refl _) (Nat.le_refl _) (fun v w h => ?_)
          obtain ⟨x48, rfl, e48, rfl⟩ := h
          change G E g [(x, .inr (5, [z0, .ref op, z2, z3, z4, z5, z6, z7])), (op, .inr (4, [.ref ob, .int sk])), (ob, aB E (cap) (fk)), (h, .inr (2, [.int tg, .int f1, .int f2, .ref bq, .int sz, .int su])), (bq, aB E (cp) (ff))] _ _ _ _ [.int x48, .ref op]
          have u48 := u8_of e48 (B8_d (bdy_8 h8) j)
          refine g_callV C r mv_X3_155 dX3_emitField_51 (c_X2_emit g.l E op ob (cap) fk sk (o ++ (if tag ≤ 9 then [] else [bd.getD 0 0] ++ [bd.getD 1 0]) ++ (bdy tag bd).take j) x48 hs hb (by omega) (by first | omega | (simp only [List.length_append, List.length_cons, List.length_nil, dg_len, drN_len, fdN_len, ldL_19, sl_len]; omega))) (wr := [(x, .inr (5, [z0, .ref op, z2, z3, z4, z5, z6, z7])), (h, .inr (2, [.int tg, .int f1, .int f2, .ref bq, .int sz, .int su])), (bq, aB E (cp) (ff))]) (As := [.int x48]) (rest := []) (Spl.at [0, 3, 4] [1, 2] rfl rfl rfl) 0 rfl rfl rfl rfl (Nat.le_of_ble_eq_true rfl) (by decide) (Nat.le_refl _) (Nat.le_refl _) (fun v w h => ?_)
          obtain ⟨rfl, f51, s51, es51, eb51, rfl⟩ := h
          change G E g [(x, .inr (5, [z0, .ref op, z2, z3, z4, z5, z6, z7])), (h, .inr (2, [.int tg, .int f1, .int f2, .ref bq, .int sz, .int su])), (bq, aB E (cp) (ff)), (op, .inr (4, [.ref ob, .int s51])), (ob, aB E (cap) (f51))] _ _ _ _ []
          refine g_iinc C dX3_emitField_54 2 rfl (by rw [hN]; decide) (by decide) (by omega) (fun x54 e54 => ?_)
          refine g_lvE (lv' := [(2, .int x54), (0, .ref x), (1, .ref h)]) rfl ?_
          refine g_goto C 34 dX3_emitField_57 (by decide) ?_
          refine g_lv [1, 2, 0] (lv' := [(0, .ref x), (1, .ref h), (2, .int x54)]) rfl ?_
          refine g_perm [0, 3, 4, 1, 2] rfl (ws' := [(x, .inr (5, [z0, .ref op, z2, z3, z4, z5, z6, z7])), (op, .inr (4, [.ref ob, .int s51])), (ob, aB E (cap) (f51)), (h, .inr (2, [.int tg, .int f1, .int f2, .ref bq, .int sz, .int su])), (bq, aB E (cp) (ff))]) rfl ?_
          exact ih34 (x54) (s51) (f51) (j + 1) (by omega) (by omega) (by omega) (by rw [tk_s (by omega), ← List.append_assoc]; exact es51.trans (len_1 _ _)) (by rw [tk_s (by omega), ← List.append_assoc, ← u48]; exact eb51)
    refine g_lv [1, 2, 0] (lv' := [(0, .ref x), (1, .ref h), (2, .int x32)]) rfl ?_
    exact loop34 _ (x32) (s0) (g0) (0) (Nat.lt_succ_self _) (by omega) (by omega) (by rw [List.take_zero, List.append_nil]; exact hs0) (by rw [List.take_zero, List.append_nil]; exact hb0)
  refine g_if_ne C 32 dX3_emitField_7 (by decide) (fun c7 => ?_) (fun c7 => ?_)
  · replace e4 := bl1 e4 c7
    refine g_lv [0, 1] (lv' := [(0, .ref x), (1, .ref h)]) rfl ?_
    exact J32 (os) (of) (by rw [if_pos (by omega), List.append_nil]; exact hos) (by rw [if_pos (by omega), List.append_nil]; exact hB)
  · replace e4 := bl0 e4 c7
    refine g_aload_n C dX3_emitField_10 0 rfl ?_
    refine gf_X3_19 C 0 rfl rfl dX3_emitField_11 ?_
    refine g_aload_n C dX3_emitField_14 1 rfl ?_
    refine gf_X3_89 C 3 rfl rfl dX3_emitField_15 ?_
    refine g_callV C r mv_X3_155 dX3_emitField_18 (c_X2_emit g.l E op ob (cap) of os (o) f1 hos hB (by omega) (by first | omega | (simp only [List.length_append, List.length_cons, List.length_nil, dg_len, drN_len, fdN_len, ldL_19, sl_len]; omega))) (wr := [(x, .inr (5, [z0, .ref op, z2, z3, z4, z5, z6, z7])), (h, .inr (2, [.int tg, .int f1, .int f2, .ref bq, .int sz, .int su])), (bq, aB E (cp) (ff))]) (As := [.int f1]) (rest := []) (Spl.at [0, 3, 4] [1, 2] rfl rfl rfl) 0 rfl rfl rfl rfl (Nat.le_of_ble_eq_true rfl) (by decide) (Nat.le_refl _) (Nat.le_refl _) (fun v w h => ?_)
    obtain ⟨rfl, f18, s18, es18, eb18, rfl⟩ := h
    change G E g [(x, .inr (5, [z0, .ref op, z2, z3, z4, z5, z6, z7])), (h, .inr (2, [.int tg, .int f1, .int f2, .ref bq, .int sz, .int su])), (bq, aB E (cp) (ff)), (op, .inr (4, [.ref ob, .int s18])), (ob, aB E (cap) (f18))] _ _ _ _ []
    refine g_aload_n C dX3_emitField_21 0 rfl ?_
    refine gf_X3_19 C 0 rfl rfl dX3_emitField_22 ?_
    refine g_aload_n C dX3_emitField_25 1 rfl ?_
    refine gf_X3_92 C 1 rfl rfl dX3_emitField_26 ?_
    refine g_callV C r mv_X3_155 dX3_emitField_29 (c_X2_emit g.l E op ob (cap) f18 s18 (o ++ [u8 f1]) f2 (es18.trans (len_1 _ _)) eb18 (by omega) (by first | omega | (simp only [List.length_append, List.length_cons, List.length_nil, dg_len, drN_len, fdN_len, ldL_19, sl_len]; omega))) (wr := [(x, .inr (5, [z0, .ref op, z2, z3, z4, z5, z6, z7])), (h, .inr (2, [.int tg, .int f1, .int f2, .ref bq, .int sz, .int su])), (bq, aB E (cp) (ff))]) (As := [.int f2]) (rest := []) (Spl.at [0, 1, 2] [3, 4] rfl rfl rfl) 0 rfl rfl rfl rfl (Nat.le_of_ble_eq_true rfl) (by decide) (Nat.le_refl _) (Nat.le_refl _) (fun v w h => ?_)
    obtain ⟨rfl, f29, s29, es29, eb29, rfl⟩ := h
    change G E g [(x, .inr (5, [z0, .ref op, z2, z3, z4, z5, z6, z7])), (h, .inr (2, [.int tg, .int f1, .int f2, .ref bq, .int sz, .int su])), (bq, aB E (cp) (ff)), (op, .inr (4, [.ref ob, .int s29])), (ob, aB E (cap) (f29))] _ _ _ _ []
    refine g_lv [0, 1] (lv' := [(0, .ref x), (1, .ref h)]) rfl ?_
    refine g_perm [0, 3, 4, 1, 2] rfl (ws' := [(x, .inr (5, [z0, .ref op, z2, z3, z4, z5, z6, z7])), (op, .inr (4, [.ref ob, .int s29])), (ob, aB E (cap) (f29)), (h, .inr (2, [.int tg, .int f1, .int f2, .ref bq, .int sz, .int su])), (bq, aB E (cp) (ff))]) rfl ?_
    exact J32 (s29) (f29) (by rw [if_neg (by omega), ← List.append_assoc]; exact es29.trans (len_2 _ _ _ _)) (by rw [if_neg (by omega), ← List.append_assoc, ← u8_of (qI (by omega)).1 (B8_d h8 0), ← u8_of (qI (by omega)).2 (B8_d h8 1)]; exact eb29)
