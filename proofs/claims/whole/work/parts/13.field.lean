set_option maxHeartbeats 1000000 in
set_option maxRecDepth 10000 in
theorem c_X1_init (l : Launch) (E : GE) (h : Nat) (z1 z2 : Int32)  : Ctr l E yX1_init cX1_init 1 none 1 (1) (1500) [.ref h] [(h, .inr (3, [.null, .int z1, .int z2]))] (fun v w => v = none ∧ ∃ (q : Nat) (s p : Int32), s.toInt = 0 ∧ p.toInt = 0 ∧ w = [(h, .inr (3, [.ref q, .int s, .int p])), (q, aB E 1500 (fun _ => 0))]) := by
  refine Ctr.intro (by decide) (Nat.le_of_ble_eq_true rfl) (fun g hgl hN C r F hi => ?_)
  subst hgl
  change G E g [(h, .inr (3, [.null, .int z1, .int z2]))] 0 0 0 [(0, .ref h)] []
  refine g_aload_n C dX1_init_0 0 rfl ?_
  refine g_objInit C r (by decide) kw1_28 dX1_init_1 (Nat.le_of_ble_eq_true rfl) ?_
  refine g_aload_n C dX1_init_4 0 rfl ?_
  refine g_sipush C dX1_init_5 (by decide) (fun x5 e5 => ?_)
  refine g_newB C r dX1_init_8 (1500) (by omega) (by omega) (by omega) (by omega) (fun q8 => ?_)
  change G E g [(h, .inr (3, [.null, .int z1, .int z2])), (q8, aB E (1500) (fun _ => 0))] _ _ _ _ _
  refine gp_X1_9 C (hi rfl) 0 rfl (Nat.le_of_ble_eq_true rfl) rfl rfl dX1_init_10 ?_
  change G E g [(h, .inr (3, [.ref q8, .int z1, .int z2])), (q8, aB E (1500) (fun _ => 0))] _ _ _ _ _
  refine g_aload_n C dX1_init_13 0 rfl ?_
  refine g_iconst C dX1_init_14 (by decide) (fun x14 e14 => ?_)
  refine gp_X1_15 C 0 rfl (Nat.le_of_ble_eq_true rfl) rfl rfl dX1_init_15 ?_
  change G E g [(h, .inr (3, [.ref q8, .int x14, .int z2])), (q8, aB E (1500) (fun _ => 0))] _ _ _ _ _
  refine g_aload_n C dX1_init_18 0 rfl ?_
  refine g_iconst C dX1_init_19 (by decide) (fun x19 e19 => ?_)
  refine gp_X1_19 C 0 rfl (Nat.le_of_ble_eq_true rfl) rfl rfl dX1_init_20 ?_
  change G E g [(h, .inr (3, [.ref q8, .int x14, .int x19])), (q8, aB E (1500) (fun _ => 0))] _ _ _ _ _
  exact g_vret C F dX1_init_23 (by omega) (by omega) (by exact ⟨rfl, _, _, _, by omega, by omega, rfl⟩)
set_option maxHeartbeats 1000000 in
set_option maxRecDepth 10000 in
theorem c_X1_skip (l : Launch) (E : GE) (h b : Nat) (f : Nat → Int32) (sz pl : Int32) (S P : Nat) (x : Int32) (k : Nat) (hS : sz.toInt = (S : Int)) (hP : pl.toInt = (P : Int)) (hPS : P ≤ S) (hSm : S ≤ 1500) (hx : x.toInt = (k : Int)) (hk : P + k ≤ 2000) : Ctr l E yX1_skip cX1_skip 2 none 0 (0) (0) [.ref h, .int x] [(h, .inr (3, [.ref b, .int sz, .int pl])), (b, aB E (1500) (f))] (fun v w => v = none ∧ ∃ p : Int32, p.toInt = ((P + k : Nat) : Int) ∧ w = [(h, .inr (3, [.ref b, .int sz, .int p])), (b, aB E 1500 f)]) := by
  refine Ctr.intro (by decide) (Nat.le_of_ble_eq_true rfl) (fun g hgl hN C r F hi => ?_)
  subst hgl
  change G E g [(h, .inr (3, [.ref b, .int sz, .int pl])), (b, aB E (1500) (f))] 0 0 0 [(0, .ref h), (1, .int x)] []
  refine g_aload_n C dX1_skip_0 0 rfl ?_
  refine g_dup C dX1_skip_1 rfl ?_
  refine gf_X1_19 C 0 rfl rfl dX1_skip_2 ?_
  refine g_iload_n C dX1_skip_5 1 rfl ?_
  refine g_iadd C dX1_skip_6 (by omega) (fun x6 e6 => ?_)
  refine gp_X1_19 C 0 rfl (Nat.le_of_ble_eq_true rfl) rfl rfl dX1_skip_7 ?_
  change G E g [(h, .inr (3, [.ref b, .int sz, .int x6])), (b, aB E (1500) (f))] _ _ _ _ _
  exact g_vret C F dX1_skip_10 (by omega) (by omega) (by exact ⟨rfl, _, by omega, rfl⟩)
set_option maxHeartbeats 1000000 in
set_option maxRecDepth 10000 in
theorem c_X1_append (l : Launch) (E : GE) (h b : Nat) (f : Nat → Int32) (sz pl : Int32) (S P : Nat) (x : Int32) (hS : sz.toInt = (S : Int)) (hP : pl.toInt = (P : Int)) (hPS : P ≤ S) (hSm : S ≤ 1500) : Ctr l E yX1_append cX1_append 2 none 0 (0) (0) [.ref h, .int x] [(h, .inr (3, [.ref b, .int sz, .int pl])), (b, aB E (1500) (f))] (fun v w => v = none ∧ ∃ (s : Int32) (f2 : Nat → Int32), ((S < 1500 ∧ s.toInt = ((S + 1 : Nat) : Int) ∧ f2 = upd f S (sB (u8 x))) ∨ (¬ S < 1500 ∧ s = sz ∧ f2 = f)) ∧ w = [(h, .inr (3, [.ref b, .int s, .int pl])), (b, aB E 1500 f2)]) := by
  refine Ctr.intro (by decide) (Nat.le_of_ble_eq_true rfl) (fun g hgl hN C r F hi => ?_)
  subst hgl
  change G E g [(h, .inr (3, [.ref b, .int sz, .int pl])), (b, aB E (1500) (f))] 0 0 0 [(0, .ref h), (1, .int x)] []
  refine g_aload_n C dX1_append_0 0 rfl ?_
  refine gf_X1_15 C 0 rfl rfl dX1_append_1 ?_
  refine g_sipush C dX1_append_4 (by decide) (fun x4 e4 => ?_)
  refine g_icmp_ge C 30 dX1_append_7 (by decide) (fun c7 => ?_) (fun c7 => ?_)
  · exact g_vret C F dX1_append_30 (by omega) (by omega) (by first | exact ⟨rfl, _, _, Or.inl ⟨by omega, by omega, rfl⟩, rfl⟩ | exact ⟨rfl, _, _, Or.inr ⟨by omega, rfl, rfl⟩, rfl⟩)
  · refine g_aload_n C dX1_append_10 0 rfl ?_
    refine gf_X1_9 C 0 rfl rfl dX1_append_11 ?_
    refine g_aload_n C dX1_append_14 0 rfl ?_
    refine gf_X1_15 C 0 rfl rfl dX1_append_15 ?_
    refine g_iload_n C dX1_append_18 1 rfl ?_
    refine g_bastore C 1 rfl dX1_append_19 (S) (by omega) (by omega) ?_
    change G E g [(h, .inr (3, [.ref b, .int sz, .int pl])), (b, aB E (1500) (upd (f) (S) (sB (u8 x))))] _ _ _ _ _
    refine g_aload_n C dX1_append_20 0 rfl ?_
    refine g_dup C dX1_append_21 rfl ?_
    refine gf_X1_15 C 0 rfl rfl dX1_append_22 ?_
    refine g_iconst C dX1_append_25 (by decide) (fun x25 e25 => ?_)
    refine g_iadd C dX1_append_26 (by omega) (fun x26 e26 => ?_)
    refine gp_X1_15 C 0 rfl (Nat.le_of_ble_eq_true rfl) rfl rfl dX1_append_27 ?_
    change G E g [(h, .inr (3, [.ref b, .int x26, .int pl])), (b, aB E (1500) (upd (f) (S) (sB (u8 x))))] _ _ _ _ _
    exact g_vret C F dX1_append_30 (by omega) (by omega) (by first | exact ⟨rfl, _, _, Or.inl ⟨by omega, by omega, rfl⟩, rfl⟩ | exact ⟨rfl, _, _, Or.inr ⟨by omega, rfl, rfl⟩, rfl⟩)
set_option maxHeartbeats 1000000 in
set_option maxRecDepth 10000 in
theorem c_X2_at (l : Launch) (E : GE) (h ob cap : Nat) (of : Nat → Int32) (os x : Int32) (o : List Nat) (hos : os.toInt = (o.length : Int)) (hB : Bs of 0 o) (hcp : o.length ≤ cap) (hx0 : 0 ≤ x.toInt) (hx1 : x.toInt < (o.length : Int)) : Ctr l E yX2_at cX2_at 2 (some .byte) 1 (0) (0) [.ref h, .int x] [(h, .inr (4, [.ref ob, .int os])), (ob, aB E (cap) (of))] (oI (fun r => r = sB (o.getD x.toInt.toNat 0)) [(h, .inr (4, [.ref ob, .int os])), (ob, aB E (cap) (of))]) := by
  refine Ctr.intro (by decide) (Nat.le_of_ble_eq_true rfl) (fun g hgl hN C r F hi => ?_)
  subst hgl
  change G E g [(h, .inr (4, [.ref ob, .int os])), (ob, aB E (cap) (of))] 0 0 0 [(0, .ref h), (1, .int x)] []
  refine g_aload_n C dX2_at_0 0 rfl ?_
  refine g_iload_n C dX2_at_1 1 rfl ?_
  refine g_callV C r mv_X2_27 dX2_at_2 (c_X2_has g.l E h ob os x) (wr := [(ob, aB E (cap) (of))]) (As := [.int x]) (rest := []) (Spl.at [1] [0] rfl rfl rfl) 0 rfl rfl rfl rfl (Nat.le_of_ble_eq_true rfl) (by decide) (by omega) (by omega) (fun v w h => ?_)
  obtain ⟨x2, rfl, e2, rfl⟩ := h
  change G E g [(ob, aB E (cap) (of)), (h, .inr (4, [.ref ob, .int os]))] _ _ _ _ [.int x2]
  refine g_if_eq C 17 dX2_at_5 (by decide) (fun c5 => ?_) (fun c5 => ?_)
  · exfalso; omega
  · refine g_aload_n C dX2_at_8 0 rfl ?_
    refine gf_X2_9 C 1 rfl rfl dX2_at_9 ?_
    refine g_iload_n C dX2_at_12 1 rfl ?_
    refine g_baload C 0 rfl dX2_at_13 (0 + x.toInt.toNat) (by omega) (by omega) (fun x13 e13 => ?_)
    refine g_goto C 18 dX2_at_14 (by decide) ?_
    refine g_perm [1, 0] rfl (ws' := [(h, .inr (4, [.ref ob, .int os])), (ob, aB E (cap) (of))]) rfl ?_
    exact g_iret C F dX2_at_18 rfl (nb_sB e13 (hB _ (by omega))) (by omega) (by omega) (by refine ⟨_, rfl, ?_, rfl⟩; show _ = _; rw [e13]; exact hB _ (by omega))
set_option maxHeartbeats 1000000 in
set_option maxRecDepth 10000 in
theorem c_X0_init (l : Launch) (E : GE) (h : Nat) (t1 t2 t3 t4 t5 : Int32)  : Ctr l E yX0_init cX0_init 1 none 1 (1) (16) [.ref h] [(h, .inr (2, [.int t1, .int t2, .int t3, .null, .int t4, .int t5]))] (fun v w => v = none ∧ ∃ q : Nat, w = [(h, .inr (2, [.int t1, .int t2, .int t3, .ref q, .int t4, .int t5])), (q, aB E 16 (fun _ => 0))]) := by
  refine Ctr.intro (by decide) (Nat.le_of_ble_eq_true rfl) (fun g hgl hN C r F hi => ?_)
  subst hgl
  change G E g [(h, .inr (2, [.int t1, .int t2, .int t3, .null, .int t4, .int t5]))] 0 0 0 [(0, .ref h)] []
  refine g_aload_n C dX0_init_0 0 rfl ?_
  refine g_objInit C r (by decide) kw1_59 dX0_init_1 (Nat.le_of_ble_eq_true rfl) ?_
  refine g_aload_n C dX0_init_4 0 rfl ?_
  refine g_bipush C dX0_init_5 (by decide) (fun x5 e5 => ?_)
  refine g_newB C r dX0_init_7 (16) (by omega) (by omega) (by omega) (by omega) (fun q7 => ?_)
  change G E g [(h, .inr (2, [.int t1, .int t2, .int t3, .null, .int t4, .int t5])), (q7, aB E (16) (fun _ => 0))] _ _ _ _ _
  refine gp_X0_11 C 0 rfl (Nat.le_of_ble_eq_true rfl) rfl rfl dX0_init_9 ?_
  change G E g [(h, .inr (2, [.int t1, .int t2, .int t3, .ref q7, .int t4, .int t5])), (q7, aB E (16) (fun _ => 0))] _ _ _ _ _
  exact g_vret C F dX0_init_12 (by omega) (by omega) (by exact ⟨rfl, _, rfl⟩)
set_option maxHeartbeats 1000000 in
set_option maxRecDepth 10000 in
theorem c_X0_begin (l : Launch) (E : GE) (h fb : Nat) (tag fi se sz su : Int32) (x y z : Int32)  : Ctr l E yX0_begin cX0_begin 4 none 0 (0) (0) [.ref h, .int x, .int y, .int z] [(h, .inr (2, [.int tag, .int fi, .int se, .ref fb, .int sz, .int su]))] (fun v w => v = none ∧ ∃ s u : Int32, s.toInt = 0 ∧ u.toInt = 0 ∧ w = [(h, .inr (2, [.int x, .int y, .int z, .ref fb, .int s, .int u]))]) := by
  refine Ctr.intro (by decide) (Nat.le_of_ble_eq_true rfl) (fun g hgl hN C r F hi => ?_)
  subst hgl
  change G E g [(h, .inr (2, [.int tag, .int fi, .int se, .ref fb, .int sz, .int su]))] 0 0 0 [(0, .ref h), (1, .int x), (2, .int y), (3, .int z)] []
  refine g_aload_n C dX0_begin_0 0 rfl ?_
  refine g_iload_n C dX0_begin_1 1 rfl ?_
  refine gp_X0_15 C 0 rfl (Nat.le_of_ble_eq_true rfl) rfl rfl dX0_begin_2 ?_
  change G E g [(h, .inr (2, [.int x, .int fi, .int se, .ref fb, .int sz, .int su]))] _ _ _ _ _
  refine g_aload_n C dX0_begin_5 0 rfl ?_
  refine g_iload_n C dX0_begin_6 2 rfl ?_
  refine gp_X0_19 C 0 rfl (Nat.le_of_ble_eq_true rfl) rfl rfl dX0_begin_7 ?_
  change G E g [(h, .inr (2, [.int x, .int y, .int se, .ref fb, .int sz, .int su]))] _ _ _ _ _
  refine g_aload_n C dX0_begin_10 0 rfl ?_
  refine g_iload_n C dX0_begin_11 3 rfl ?_
  refine gp_X0_22 C 0 rfl (Nat.le_of_ble_eq_true rfl) rfl rfl dX0_begin_12 ?_
  change G E g [(h, .inr (2, [.int x, .int y, .int z, .ref fb, .int sz, .int su]))] _ _ _ _ _
  refine g_aload_n C dX0_begin_15 0 rfl ?_
  refine g_iconst C dX0_begin_16 (by decide) (fun x16 e16 => ?_)
  refine gp_X0_25 C 0 rfl (Nat.le_of_ble_eq_true rfl) rfl rfl dX0_begin_17 ?_
  change G E g [(h, .inr (2, [.int x, .int y, .int z, .ref fb, .int x16, .int su]))] _ _ _ _ _
  refine g_aload_n C dX0_begin_20 0 rfl ?_
  refine g_iconst C dX0_begin_21 (by decide) (fun x21 e21 => ?_)
  refine gp_X0_28 C 0 rfl (Nat.le_of_ble_eq_true rfl) rfl rfl dX0_begin_22 ?_
  change G E g [(h, .inr (2, [.int x, .int y, .int z, .ref fb, .int x16, .int x21]))] _ _ _ _ _
  exact g_vret C F dX0_begin_25 (by omega) (by omega) (by exact ⟨rfl, _, _, by omega, by omega, rfl⟩)
set_option maxHeartbeats 1000000 in
set_option maxRecDepth 10000 in
theorem c_X0_at (l : Launch) (E : GE) (h fb cap : Nat) (ff : Nat → Int32) (tag fi se sz su : Int32) (bd : List Nat) (x : Int32) (hsz : sz.toInt = (bd.length : Int)) (hB : Bs ff 0 bd) (h8 : B8 bd) (hle : bd.length ≤ cap) (hcap : cap ≤ 100000) : Ctr l E yX0_at cX0_at 2 (some .int) 0 (0) (0) [.ref h, .int x] [(h, .inr (2, [.int tag, .int fi, .int se, .ref fb, .int sz, .int su])), (fb, aB E (cap) (ff))] (oI (fun r => r.toInt = gI bd x.toInt) [(h, .inr (2, [.int tag, .int fi, .int se, .ref fb, .int sz, .int su])), (fb, aB E (cap) (ff))]) := by
  refine Ctr.intro (by decide) (Nat.le_of_ble_eq_true rfl) (fun g hgl hN C r F hi => ?_)
  subst hgl
  change G E g [(h, .inr (2, [.int tag, .int fi, .int se, .ref fb, .int sz, .int su])), (fb, aB E (cap) (ff))] 0 0 0 [(0, .ref h), (1, .int x)] []
  refine g_iload_n C dX0_at_0 1 rfl ?_
  refine g_if_lt C 12 dX0_at_1 (by decide) (fun c1 => ?_) (fun c1 => ?_)
  · refine g_iconst C dX0_at_12 (by decide) (fun x12 e12 => ?_)
    refine g_goto C 26 dX0_at_13 (by decide) ?_
    exact g_iret C F dX0_at_26 rfl rfl (by omega) (by omega) (by first | (refine ⟨_, rfl, ?_, rfl⟩; show _ = _; rw [gI_out (by omega)]; omega) | (refine ⟨_, rfl, ?_, rfl⟩; show _ = _; unfold gI; rw [if_pos (by omega), e25, e21, Bs_at hB h8 (by omega)]))
  · refine g_iload_n C dX0_at_4 1 rfl ?_
    refine g_aload_n C dX0_at_5 0 rfl ?_
    refine gf_X0_25 C 0 rfl rfl dX0_at_6 ?_
    refine g_icmp_lt C 16 dX0_at_9 (by decide) (fun c9 => ?_) (fun c9 => ?_)
    · refine g_aload_n C dX0_at_16 0 rfl ?_
      refine gf_X0_11 C 0 rfl rfl dX0_at_17 ?_
      refine g_iload_n C dX0_at_20 1 rfl ?_
      refine g_baload C 1 rfl dX0_at_21 (0 + x.toInt.toNat) (by omega) (by omega) (fun x21 e21 => ?_)
      refine g_sipush C dX0_at_22 (by decide) (fun x22 e22 => ?_)
      refine g_iand255 C dX0_at_25 e22 (fun x25 e25 l25 => ?_)
      exact g_iret C F dX0_at_26 rfl rfl (by omega) (by omega) (by first | (refine ⟨_, rfl, ?_, rfl⟩; show _ = _; rw [gI_out (by omega)]; omega) | (refine ⟨_, rfl, ?_, rfl⟩; show _ = _; unfold gI; rw [if_pos (by omega), e25, e21, Bs_at hB h8 (by omega)]))
    · refine g_iconst C dX0_at_12 (by decide) (fun x12 e12 => ?_)
      refine g_goto C 26 dX0_at_13 (by decide) ?_
      exact g_iret C F dX0_at_26 rfl rfl (by omega) (by omega) (by first | (refine ⟨_, rfl, ?_, rfl⟩; show _ = _; rw [gI_out (by omega)]; omega) | (refine ⟨_, rfl, ?_, rfl⟩; show _ = _; unfold gI; rw [if_pos (by omega), e25, e21, Bs_at hB h8 (by omega)]))
theorem c_X0_at' (l : Launch) (E : GE) (h fb cap : Nat) (ff : Nat → Int32) (tag fi se sz su : Int32) (bd : List Nat) (x : Int32) (k : Nat) (hsz : sz.toInt = (bd.length : Int)) (hB : Bs ff 0 bd) (h8 : B8 bd) (hle : bd.length ≤ cap) (hcap : cap ≤ 100000) (hx : x.toInt = (k : Int)) (hk : k < bd.length) : Ctr l E yX0_at cX0_at 2 (some .int) 0 (0) (0) [.ref h, .int x] [(h, .inr (2, [.int tag, .int fi, .int se, .ref fb, .int sz, .int su])), (fb, aB E (cap) (ff))] (oI (fun r => r.toInt = (bd.getD k 0 : Int)) [(h, .inr (2, [.int tag, .int fi, .int se, .ref fb, .int sz, .int su])), (fb, aB E (cap) (ff))]) :=
  fun s => Met.post (c_X0_at l E h fb cap ff tag fi se sz su bd x hsz hB h8 hle hcap s) (by
    rintro v w ⟨r, rfl, hr, rfl⟩
    refine ⟨r, rfl, ?_, rfl⟩
    show r.toInt = _
    rw [hr, hx, gI_in hk])
set_option maxHeartbeats 1000000 in
set_option maxRecDepth 10000 in
theorem c_X0_indicatorCount (l : Launch) (E : GE) (h fb : Nat) (tag fi se sz su : Int32)  : Ctr l E yX0_indicatorCount cX0_indicatorCount 1 (some .int) 1 (0) (0) [.ref h] [(h, .inr (2, [.int tag, .int fi, .int se, .ref fb, .int sz, .int su]))] (oI (fun r => (tag.toInt ≤ 9 ∧ r.toInt = 0) ∨ (9 < tag.toInt ∧ r.toInt = 2)) [(h, .inr (2, [.int tag, .int fi, .int se, .ref fb, .int sz, .int su]))]) := by
  refine Ctr.intro (by decide) (Nat.le_of_ble_eq_true rfl) (fun g hgl hN C r F hi => ?_)
  subst hgl
  change G E g [(h, .inr (2, [.int tag, .int fi, .int se, .ref fb, .int sz, .int su]))] 0 0 0 [(0, .ref h)] []
  refine g_aload_n C dX0_indicatorCount_0 0 rfl ?_
  refine gf_X0_15 C 0 rfl rfl dX0_indicatorCount_1 ?_
  refine g_callN C r mn_X0_37 dX0_indicatorCount_4 (c_X3_isControl g.l E tag) (wr := [(h, .inr (2, [.int tag, .int fi, .int se, .ref fb, .int sz, .int su]))]) (As := [.int tag]) (rest := []) (Spl.at [0] [] rfl rfl rfl) rfl (Nat.le_of_ble_eq_true rfl) (by decide) (by omega) (by omega) (fun v w h => ?_)
  obtain ⟨x4, rfl, e4, rfl⟩ := h
  change G E g [(h, .inr (2, [.int tag, .int fi, .int se, .ref fb, .int sz, .int su]))] _ _ _ _ [.int x4]
  refine g_if_eq C 14 dX0_indicatorCount_7 (by decide) (fun c7 => ?_) (fun c7 => ?_)
  · refine g_iconst C dX0_indicatorCount_14 (by decide) (fun x14 e14 => ?_)
    exact g_iret C F dX0_indicatorCount_15 rfl rfl (by omega) (by omega) (by exact ⟨_, rfl, by omega, rfl⟩)
  · refine g_iconst C dX0_indicatorCount_10 (by decide) (fun x10 e10 => ?_)
    refine g_goto C 15 dX0_indicatorCount_11 (by decide) ?_
    exact g_iret C F dX0_indicatorCount_15 rfl rfl (by omega) (by omega) (by exact ⟨_, rfl, by omega, rfl⟩)
set_option maxHeartbeats 1000000 in
set_option maxRecDepth 10000 in
theorem c_X0_heldBytes (l : Launch) (E : GE) (h fb : Nat) (tag fi se sz su : Int32) (h1 : 0 ≤ sz.toInt ∧ sz.toInt ≤ 100000) (h2 : 0 ≤ su.toInt ∧ su.toInt ≤ 100000) : Ctr l E yX0_heldBytes cX0_heldBytes 1 (some .int) 2 (0) (0) [.ref h] [(h, .inr (2, [.int tag, .int fi, .int se, .ref fb, .int sz, .int su]))] (oI (fun r => (tag.toInt ≤ 9 ∧ r.toInt = sz.toInt - su.toInt) ∨ (9 < tag.toInt ∧ r.toInt = 2 + sz.toInt - su.toInt)) [(h, .inr (2, [.int tag, .int fi, .int se, .ref fb, .int sz, .int su]))]) := by
  refine Ctr.intro (by decide) (Nat.le_of_ble_eq_true rfl) (fun g hgl hN C r F hi => ?_)
  subst hgl
  change G E g [(h, .inr (2, [.int tag, .int fi, .int se, .ref fb, .int sz, .int su]))] 0 0 0 [(0, .ref h)] []
  refine g_aload_n C dX0_heldBytes_0 0 rfl ?_
  refine g_callV C r mv_X0_41 dX0_heldBytes_1 (c_X0_indicatorCount g.l E h fb tag fi se sz su) (wr := []) (As := []) (rest := []) (Spl.at [] [0] rfl rfl rfl) 0 rfl rfl rfl rfl (Nat.le_of_ble_eq_true rfl) (by decide) (by omega) (by omega) (fun v w h => ?_)
  obtain ⟨x1, rfl, e1, rfl⟩ := h
  change G E g [(h, .inr (2, [.int tag, .int fi, .int se, .ref fb, .int sz, .int su]))] _ _ _ _ [.int x1]
  refine g_aload_n C dX0_heldBytes_4 0 rfl ?_
  refine gf_X0_25 C 0 rfl rfl dX0_heldBytes_5 ?_
  refine g_iadd C dX0_heldBytes_8 (by omega) (fun x8 e8 => ?_)
  refine g_aload_n C dX0_heldBytes_9 0 rfl ?_
  refine gf_X0_28 C 0 rfl rfl dX0_heldBytes_10 ?_
  refine g_isub C dX0_heldBytes_13 (by omega) (fun x13 e13 => ?_)
  exact g_iret C F dX0_heldBytes_14 rfl rfl (by omega) (by omega) (by exact ⟨_, rfl, by omega, rfl⟩)
set_option maxHeartbeats 1000000 in
set_option maxRecDepth 10000 in
theorem c_X0_writtenSize (l : Launch) (E : GE) (h fb : Nat) (tag fi se sz su : Int32) (h1 : 0 ≤ sz.toInt ∧ sz.toInt ≤ 100000) : Ctr l E yX0_writtenSize cX0_writtenSize 1 (some .int) 2 (0) (0) [.ref h] [(h, .inr (2, [.int tag, .int fi, .int se, .ref fb, .int sz, .int su]))] (oI (fun r => (tag.toInt ≤ 9 ∧ r.toInt = sz.toInt + 1) ∨ (9 < tag.toInt ∧ r.toInt = sz.toInt + 3)) [(h, .inr (2, [.int tag, .int fi, .int se, .ref fb, .int sz, .int su]))]) := by
  refine Ctr.intro (by decide) (Nat.le_of_ble_eq_true rfl) (fun g hgl hN C r F hi => ?_)
  subst hgl
  change G E g [(h, .inr (2, [.int tag, .int fi, .int se, .ref fb, .int sz, .int su]))] 0 0 0 [(0, .ref h)] []
  refine g_aload_n C dX0_writtenSize_0 0 rfl ?_
  refine g_callV C r mv_X0_41 dX0_writtenSize_1 (c_X0_indicatorCount g.l E h fb tag fi se sz su) (wr := []) (As := []) (rest := []) (Spl.at [] [0] rfl rfl rfl) 0 rfl rfl rfl rfl (Nat.le_of_ble_eq_true rfl) (by decide) (by omega) (by omega) (fun v w h => ?_)
  obtain ⟨x1, rfl, e1, rfl⟩ := h
  change G E g [(h, .inr (2, [.int tag, .int fi, .int se, .ref fb, .int sz, .int su]))] _ _ _ _ [.int x1]
  refine g_aload_n C dX0_writtenSize_4 0 rfl ?_
  refine gf_X0_25 C 0 rfl rfl dX0_writtenSize_5 ?_
  refine g_iadd C dX0_writtenSize_8 (by omega) (fun x8 e8 => ?_)
  refine g_iconst C dX0_writtenSize_9 (by decide) (fun x9 e9 => ?_)
  refine g_iadd C dX0_writtenSize_10 (by omega) (fun x10 e10 => ?_)
  exact g_iret C F dX0_writtenSize_11 rfl rfl (by omega) (by omega) (by exact ⟨_, rfl, by omega, rfl⟩)
set_option maxHeartbeats 1000000 in
set_option maxRecDepth 10000 in
theorem c_X0_subfieldStart (l : Launch) (E : GE) (h fb cap : Nat) (ff : Nat → Int32) (tag fi se sz su : Int32) (bd : List Nat) (x y : Int32) (hsz : sz.toInt = (bd.length : Int)) (hB : Bs ff 0 bd) (h8 : B8 bd) (hle : bd.length ≤ cap) (hcap : cap ≤ 100000) : Ctr l E yX0_subfieldStart cX0_subfieldStart 5 (some .int) 1 (0) (0) [.ref h, .int x, .int y] [(h, .inr (2, [.int tag, .int fi, .int se, .ref fb, .int sz, .int su])), (fb, aB E (cap) (ff))] (oI (fun r => r.toInt = sIx bd x.toInt y.toInt (bd.length - 1) 0 0) [(h, .inr (2, [.int tag, .int fi, .int se, .ref fb, .int sz, .int su])), (fb, aB E (cap) (ff))]) := by
  refine Ctr.intro (by decide) (Nat.le_of_ble_eq_true rfl) (fun g hgl hN C r F hi => ?_)
  subst hgl
  change G E g [(h, .inr (2, [.int tag, .int fi, .int se, .ref fb, .int sz, .int su])), (fb, aB E (cap) (ff))] 0 0 0 [(0, .ref h), (1, .int x), (2, .int y)] []
  refine g_iconst C dX0_subfieldStart_0 (by decide) (fun x0 e0 => ?_)
  refine g_istore_n C dX0_subfieldStart_1 (by omega) (lv' := [(3, .int x0), (0, .ref h), (1, .int x), (2, .int y)]) rfl ?_
  refine g_iconst C dX0_subfieldStart_2 (by decide) (fun x2 e2 => ?_)
  refine g_istore C dX0_subfieldStart_3 (by omega) (lv' := [(4, .int x2), (3, .int x0), (0, .ref h), (1, .int x), (2, .int y)]) rfl ?_
  have loop5 : ∀ (nn : Nat) (n3 : Int32) (n4 : Int32) (k : Nat) (hm : bd.length - k < nn) (hk : k ≤ bd.length) (hp : n4.toInt = (k : Int)) (hb : 0 ≤ n3.toInt ∧ n3.toInt ≤ (k : Int)) (hn : sIx bd x.toInt y.toInt (bd.length - 1) 0 0 = sIx bd x.toInt y.toInt (bd.length - 1 - k) k n3.toInt), G E g [(h, .inr (2, [.int tag, .int fi, .int se, .ref fb, .int sz, .int su])), (fb, aB E (cap) (ff))] 0 0 5 [(0, .ref h), (1, .int x), (2, .int y), (3, .int n3), (4, .int n4)] [] := by
    intro nn
    induction nn with
    | zero => intro n3 n4 k hm hk hp hb hn; omega
    | succ nn ih5 =>
      intro n3 n4 k hm hk hp hb hn
      refine g_iload C dX0_subfieldStart_5 4 rfl ?_
      refine g_iconst C dX0_subfieldStart_7 (by decide) (fun x7 e7 => ?_)
      refine g_iadd C dX0_subfieldStart_8 (by omega) (fun x8 e8 => ?_)
      refine g_aload_n C dX0_subfieldStart_9 0 rfl ?_
      refine gf_X0_25 C 0 rfl rfl dX0_subfieldStart_10 ?_
      refine g_icmp_ge C 58 dX0_subfieldStart_13 (by decide) (fun c13 => ?_) (fun c13 => ?_)
      · refine g_iconst C dX0_subfieldStart_58 (by decide) (fun x58 e58 => ?_)
        exact g_iret C F dX0_subfieldStart_59 rfl rfl (by omega) (by omega) (by refine ⟨_, rfl, ?_, rfl⟩; show _ = _; rw [hn, sIx_zero (by omega)]; omega)
      · refine g_aload_n C dX0_subfieldStart_16 0 rfl ?_
        refine g_iload C dX0_subfieldStart_17 4 rfl ?_
        refine g_callV C r mv_X0_45 dX0_subfieldStart_19 (c_X0_at' g.l E h fb cap ff tag fi se sz su bd n4 (k) hsz hB h8 hle hcap (by omega) (by omega)) (wr := []) (As := [.int n4]) (rest := []) (Spl.at [] [0, 1] rfl rfl rfl) 0 rfl rfl rfl rfl (Nat.le_of_ble_eq_true rfl) (by decide) (by omega) (by omega) (fun v w h => ?_)
        obtain ⟨x19, rfl, e19, rfl⟩ := h
        change G E g [(h, .inr (2, [.int tag, .int fi, .int se, .ref fb, .int sz, .int su])), (fb, aB E (cap) (ff))] _ _ _ _ [.int x19]
        refine g_bipush C dX0_subfieldStart_22 (by decide) (fun x22 e22 => ?_)
        refine g_icmp_ne C 52 dX0_subfieldStart_24 (by decide) (fun c24 => ?_) (fun c24 => ?_)
        · refine g_iinc C dX0_subfieldStart_52 4 rfl (by omega) (by decide) (by omega) (fun x52 e52 => ?_)
          refine g_lvE (lv' := [(4, .int x52), (0, .ref h), (1, .int x), (2, .int y), (3, .int n3)]) rfl ?_
          refine g_goto C 5 dX0_subfieldStart_55 (by decide) ?_
          refine g_lv [1, 2, 3, 4, 0] (lv' := [(0, .ref h), (1, .int x), (2, .int y), (3, .int n3), (4, .int x52)]) rfl ?_
          exact ih5 (n3) (x52) (k + 1) (by omega) (by omega) (by omega) (by omega) (by first | (rw [hn, e49, sIx_go (by omega) (by omega) (by omega), show bd.length - 1 - k - 1 = bd.length - 1 - (k + 1) by omega]; done) | (rw [hn, sIx_no (by omega) (by omega), show bd.length - 1 - k - 1 = bd.length - 1 - (k + 1) by omega]; done))
        · refine g_aload_n C dX0_subfieldStart_27 0 rfl ?_
          refine g_iload C dX0_subfieldStart_28 4 rfl ?_
          refine g_iconst C dX0_subfieldStart_30 (by decide) (fun x30 e30 => ?_)
          refine g_iadd C dX0_subfieldStart_31 (by omega) (fun x31 e31 => ?_)
          refine g_callV C r mv_X0_45 dX0_subfieldStart_32 (c_X0_at' g.l E h fb cap ff tag fi se sz su bd x31 (k + 1) hsz hB h8 hle hcap (by omega) (by omega)) (wr := []) (As := [.int x31]) (rest := []) (Spl.at [] [0, 1] rfl rfl rfl) 0 rfl rfl rfl rfl (Nat.le_of_ble_eq_true rfl) (by decide) (by omega) (by omega) (fun v w h => ?_)
          obtain ⟨x32, rfl, e32, rfl⟩ := h
          change G E g [(h, .inr (2, [.int tag, .int fi, .int se, .ref fb, .int sz, .int su])), (fb, aB E (cap) (ff))] _ _ _ _ [.int x32]
          refine g_iload_n C dX0_subfieldStart_35 1 rfl ?_
          refine g_icmp_ne C 52 dX0_subfieldStart_36 (by decide) (fun c36 => ?_) (fun c36 => ?_)
          · refine g_iinc C dX0_subfieldStart_52 4 rfl (by omega) (by decide) (by omega) (fun x52 e52 => ?_)
            refine g_lvE (lv' := [(4, .int x52), (0, .ref h), (1, .int x), (2, .int y), (3, .int n3)]) rfl ?_
            refine g_goto C 5 dX0_subfieldStart_55 (by decide) ?_
            refine g_lv [1, 2, 3, 4, 0] (lv' := [(0, .ref h), (1, .int x), (2, .int y), (3, .int n3), (4, .int x52)]) rfl ?_
            exact ih5 (n3) (x52) (k + 1) (by omega) (by omega) (by omega) (by omega) (by first | (rw [hn, e49, sIx_go (by omega) (by omega) (by omega), show bd.length - 1 - k - 1 = bd.length - 1 - (k + 1) by omega]; done) | (rw [hn, sIx_no (by omega) (by omega), show bd.length - 1 - k - 1 = bd.length - 1 - (k + 1) by omega]; done))
          · refine g_iload_n C dX0_subfieldStart_39 3 rfl ?_
            refine g_iload_n C dX0_subfieldStart_40 2 rfl ?_
            refine g_icmp_ne C 49 dX0_subfieldStart_41 (by decide) (fun c41 => ?_) (fun c41 => ?_)
            · refine g_iinc C dX0_subfieldStart_49 3 rfl (by omega) (by decide) (by omega) (fun x49 e49 => ?_)
              refine g_lvE (lv' := [(3, .int x49), (0, .ref h), (1, .int x), (2, .int y), (4, .int n4)]) rfl ?_
              refine g_iinc C dX0_subfieldStart_52 4 rfl (by omega) (by decide) (by omega) (fun x52 e52 => ?_)
              refine g_lvE (lv' := [(4, .int x52), (3, .int x49), (0, .ref h), (1, .int x), (2, .int y)]) rfl ?_
              refine g_goto C 5 dX0_subfieldStart_55 (by decide) ?_
              refine g_lv [2, 3, 4, 1, 0] (lv' := [(0, .ref h), (1, .int x), (2, .int y), (3, .int x49), (4, .int x52)]) rfl ?_
              exact ih5 (x49) (x52) (k + 1) (by omega) (by omega) (by omega) (by omega) (by first | (rw [hn, e49, sIx_go (by omega) (by omega) (by omega), show bd.length - 1 - k - 1 = bd.length - 1 - (k + 1) by omega]; done) | (rw [hn, sIx_no (by omega) (by omega), show bd.length - 1 - k - 1 = bd.length - 1 - (k + 1) by omega]; done))
            · refine g_iload C dX0_subfieldStart_44 4 rfl ?_
              refine g_iconst C dX0_subfieldStart_46 (by decide) (fun x46 e46 => ?_)
              refine g_iadd C dX0_subfieldStart_47 (by omega) (fun x47 e47 => ?_)
              exact g_iret C F dX0_subfieldStart_48 rfl rfl (by omega) (by omega) (by refine ⟨_, rfl, ?_, rfl⟩; show _ = _; rw [hn, sIx_yes (by omega) (by omega) (by omega)]; omega)
  refine g_lv [2, 3, 4, 1, 0] (lv' := [(0, .ref h), (1, .int x), (2, .int y), (3, .int x0), (4, .int x2)]) rfl ?_
  exact loop5 _ (x0) (x2) (0) (Nat.lt_succ_self _) (by omega) (by omega) (by omega) (by rw [e0]; rfl)
set_option maxHeartbeats 1000000 in
set_option maxRecDepth 10000 in
theorem c_X0_subfieldEnd (l : Launch) (E : GE) (h fb cap : Nat) (ff : Nat → Int32) (tag fi se sz su : Int32) (bd : List Nat) (x : Int32) (st : Nat) (hsz : sz.toInt = (bd.length : Int)) (hB : Bs ff 0 bd) (h8 : B8 bd) (hle : bd.length ≤ cap) (hcap : cap ≤ 100000) (hx : x.toInt = (st : Int)) (hst : st ≤ bd.length) : Ctr l E yX0_subfieldEnd cX0_subfieldEnd 3 (some .int) 1 (0) (0) [.ref h, .int x] [(h, .inr (2, [.int tag, .int fi, .int se, .ref fb, .int sz, .int su])), (fb, aB E (cap) (ff))] (oI (fun r => r.toInt = (sEn bd (bd.length - st) st : Int)) [(h, .inr (2, [.int tag, .int fi, .int se, .ref fb, .int sz, .int su])), (fb, aB E (cap) (ff))]) := by
  refine Ctr.intro (by decide) (Nat.le_of_ble_eq_true rfl) (fun g hgl hN C r F hi => ?_)
  subst hgl
  change G E g [(h, .inr (2, [.int tag, .int fi, .int se, .ref fb, .int sz, .int su])), (fb, aB E (cap) (ff))] 0 0 0 [(0, .ref h), (1, .int x)] []
  refine g_iload_n C dX0_subfieldEnd_0 1 rfl ?_
  refine g_istore_n C dX0_subfieldEnd_1 (by omega) (lv' := [(2, .int x), (0, .ref h), (1, .int x)]) rfl ?_
  have loop2 : ∀ (nn : Nat) (n2 : Int32) (k : Nat) (hm : bd.length - k < nn) (hk : st ≤ k ∧ k ≤ bd.length) (hp : n2.toInt = (k : Int)) (hn : sEn bd (bd.length - st) st = sEn bd (bd.length - k) k), G E g [(h, .inr (2, [.int tag, .int fi, .int se, .ref fb, .int sz, .int su])), (fb, aB E (cap) (ff))] 0 0 2 [(0, .ref h), (1, .int x), (2, .int n2)] [] := by
    intro nn
    induction nn with
    | zero => intro n2 k hm hk hp hn; omega
    | succ nn ih2 =>
      intro n2 k hm hk hp hn
      refine g_iload_n C dX0_subfieldEnd_2 2 rfl ?_
      refine g_aload_n C dX0_subfieldEnd_3 0 rfl ?_
      refine gf_X0_25 C 0 rfl rfl dX0_subfieldEnd_4 ?_
      refine g_icmp_ge C 28 dX0_subfieldEnd_7 (by decide) (fun c7 => ?_) (fun c7 => ?_)
      · refine g_aload_n C dX0_subfieldEnd_28 0 rfl ?_
        refine gf_X0_25 C 0 rfl rfl dX0_subfieldEnd_29 ?_
        exact g_iret C F dX0_subfieldEnd_32 rfl rfl (by omega) (by omega) (by refine ⟨_, rfl, ?_, rfl⟩; show _ = _; rw [hn, sEn_zero (by omega)]; omega)
      · refine g_aload_n C dX0_subfieldEnd_10 0 rfl ?_
        refine g_iload_n C dX0_subfieldEnd_11 2 rfl ?_
        refine g_callV C r mv_X0_45 dX0_subfieldEnd_12 (c_X0_at' g.l E h fb cap ff tag fi se sz su bd n2 (k) hsz hB h8 hle hcap (by omega) (by omega)) (wr := []) (As := [.int n2]) (rest := []) (Spl.at [] [0, 1] rfl rfl rfl) 0 rfl rfl rfl rfl (Nat.le_of_ble_eq_true rfl) (by decide) (by omega) (by omega) (fun v w h => ?_)
        obtain ⟨x12, rfl, e12, rfl⟩ := h
        change G E g [(h, .inr (2, [.int tag, .int fi, .int se, .ref fb, .int sz, .int su])), (fb, aB E (cap) (ff))] _ _ _ _ [.int x12]
        refine g_bipush C dX0_subfieldEnd_15 (by decide) (fun x15 e15 => ?_)
        refine g_icmp_ne C 22 dX0_subfieldEnd_17 (by decide) (fun c17 => ?_) (fun c17 => ?_)
        · refine g_iinc C dX0_subfieldEnd_22 2 rfl (by omega) (by decide) (by omega) (fun x22 e22 => ?_)
          refine g_lvE (lv' := [(2, .int x22), (0, .ref h), (1, .int x)]) rfl ?_
          refine g_goto C 2 dX0_subfieldEnd_25 (by decide) ?_
          refine g_lv [1, 2, 0] (lv' := [(0, .ref h), (1, .int x), (2, .int x22)]) rfl ?_
          exact ih2 (x22) (k + 1) (by omega) (by omega) (by omega) (by rw [hn, sEn_miss (by omega) (by omega), show bd.length - k - 1 = bd.length - (k + 1) by omega])
        · refine g_iload_n C dX0_subfieldEnd_20 2 rfl ?_
          exact g_iret C F dX0_subfieldEnd_21 rfl rfl (by omega) (by omega) (by refine ⟨_, rfl, ?_, rfl⟩; show _ = _; rw [hn, sEn_hit (by omega) (by omega)]; omega)
  refine g_lv [1, 2, 0] (lv' := [(0, .ref h), (1, .int x), (2, .int x)]) rfl ?_
  exact loop2 _ (x) (st) (Nat.lt_succ_self _) (by omega) (by omega) (by rfl)
set_option maxHeartbeats 1000000 in
set_option maxRecDepth 10000 in
theorem c_X0_lastCode (l : Launch) (E : GE) (h fb cap : Nat) (ff : Nat → Int32) (tag fi se sz su : Int32) (bd : List Nat)  (hsz : sz.toInt = (bd.length : Int)) (hB : Bs ff 0 bd) (h8 : B8 bd) (hle : bd.length ≤ cap) (hcap : cap ≤ 100000) : Ctr l E yX0_lastCode cX0_lastCode 2 (some .int) 1 (0) (0) [.ref h] [(h, .inr (2, [.int tag, .int fi, .int se, .ref fb, .int sz, .int su])), (fb, aB E (cap) (ff))] (oI (fun r => r.toInt = lCn bd bd.length) [(h, .inr (2, [.int tag, .int fi, .int se, .ref fb, .int sz, .int su])), (fb, aB E (cap) (ff))]) := by
  refine Ctr.intro (by decide) (Nat.le_of_ble_eq_true rfl) (fun g hgl hN C r F hi => ?_)
  subst hgl
  change G E g [(h, .inr (2, [.int tag, .int fi, .int se, .ref fb, .int sz, .int su])), (fb, aB E (cap) (ff))] 0 0 0 [(0, .ref h)] []
  refine g_aload_n C dX0_lastCode_0 0 rfl ?_
  refine gf_X0_25 C 0 rfl rfl dX0_lastCode_1 ?_
  refine g_iconst C dX0_lastCode_4 (by decide) (fun x4 e4 => ?_)
  refine g_isub C dX0_lastCode_5 (by omega) (fun x5 e5 => ?_)
  refine g_istore_n C dX0_lastCode_6 (by omega) (lv' := [(1, .int x5), (0, .ref h)]) rfl ?_
  have loop7 : ∀ (nn : Nat) (n1 : Int32) (k : Nat) (hm : k < nn) (hk : k ≤ bd.length) (hp : n1.toInt = (k : Int) - 1) (hn : lCn bd bd.length = lCn bd k), G E g [(h, .inr (2, [.int tag, .int fi, .int se, .ref fb, .int sz, .int su])), (fb, aB E (cap) (ff))] 0 0 7 [(0, .ref h), (1, .int n1)] [] := by
    intro nn
    induction nn with
    | zero => intro n1 k hm hk hp hn; omega
    | succ nn ih7 =>
      intro n1 k hm hk hp hn
      refine g_iload_n C dX0_lastCode_7 1 rfl ?_
      refine g_if_lt C 35 dX0_lastCode_8 (by decide) (fun c8 => ?_) (fun c8 => ?_)
      · refine g_iconst C dX0_lastCode_35 (by decide) (fun x35 e35 => ?_)
        exact g_iret C F dX0_lastCode_36 rfl rfl (by omega) (by omega) (by refine ⟨_, rfl, ?_, rfl⟩; show _ = _; rw [hn, show k = 0 by omega]; exact e35)
      · refine g_aload_n C dX0_lastCode_11 0 rfl ?_
        refine g_iload_n C dX0_lastCode_12 1 rfl ?_
        refine g_callV C r mv_X0_45 dX0_lastCode_13 (c_X0_at' g.l E h fb cap ff tag fi se sz su bd n1 (k - 1) hsz hB h8 hle hcap (by omega) (by omega)) (wr := []) (As := [.int n1]) (rest := []) (Spl.at [] [0, 1] rfl rfl rfl) 0 rfl rfl rfl rfl (Nat.le_of_ble_eq_true rfl) (by decide) (by omega) (by omega) (fun v w h => ?_)
        obtain ⟨x13, rfl, e13, rfl⟩ := h
        change G E g [(h, .inr (2, [.int tag, .int fi, .int se, .ref fb, .int sz, .int su])), (fb, aB E (cap) (ff))] _ _ _ _ [.int x13]
        refine g_bipush C dX0_lastCode_16 (by decide) (fun x16 e16 => ?_)
        refine g_icmp_ne C 29 dX0_lastCode_18 (by decide) (fun c18 => ?_) (fun c18 => ?_)
        · refine g_iinc C dX0_lastCode_29 1 rfl (by omega) (by decide) (by omega) (fun x29 e29 => ?_)
          refine g_lvE (lv' := [(1, .int x29), (0, .ref h)]) rfl ?_
          refine g_goto C 7 dX0_lastCode_32 (by decide) ?_
          refine g_lv [1, 0] (lv' := [(0, .ref h), (1, .int x29)]) rfl ?_
          exact ih7 (x29) (k - 1) (by omega) (by omega) (by omega) (by obtain ⟨k, rfl⟩ : ∃ z, k = z + 1 := ⟨k - 1, by omega⟩; rw [hn]; simp only [lCn]; rw [if_neg (by simp only [Nat.add_sub_cancel] at e13; omega)]; rfl)
        · refine g_aload_n C dX0_lastCode_21 0 rfl ?_
          refine g_iload_n C dX0_lastCode_22 1 rfl ?_
          refine g_iconst C dX0_lastCode_23 (by decide) (fun x23 e23 => ?_)
          refine g_iadd C dX0_lastCode_24 (by omega) (fun x24 e24 => ?_)
          refine g_callV C r mv_X0_45 dX0_lastCode_25 (c_X0_at g.l E h fb cap ff tag fi se sz su bd x24 hsz hB h8 hle hcap) (wr := []) (As := [.int x24]) (rest := []) (Spl.at [] [0, 1] rfl rfl rfl) 0 rfl rfl rfl rfl (Nat.le_of_ble_eq_true rfl) (by decide) (by omega) (by omega) (fun v w h => ?_)
          obtain ⟨x25, rfl, e25, rfl⟩ := h
          change G E g [(h, .inr (2, [.int tag, .int fi, .int se, .ref fb, .int sz, .int su])), (fb, aB E (cap) (ff))] _ _ _ _ [.int x25]
          exact g_iret C F dX0_lastCode_28 rfl rfl (by omega) (by omega) (by refine ⟨_, rfl, ?_, rfl⟩; show _ = _; obtain ⟨k, rfl⟩ : ∃ z, k = z + 1 := ⟨k - 1, by omega⟩; rw [hn]; simp only [lCn]; rw [if_pos (by simp only [Nat.add_sub_cancel] at e13; omega), e25, show x24.toInt = (k : Int) + 1 by omega])
  refine g_lv [1, 0] (lv' := [(0, .ref h), (1, .int x5)]) rfl ?_
  exact loop7 _ (x5) (bd.length) (Nat.lt_succ_self _) (by omega) (by omega) (by rfl)
set_option maxHeartbeats 1000000 in
set_option maxRecDepth 10000 in
theorem c_X0_append (l : Launch) (E : GE) (h fb cap : Nat) (ff : Nat → Int32) (tag fi se sz su : Int32) (bd : List Nat) (x : Int32) (mc ms : Nat) (hsz : sz.toInt = (bd.length : Int)) (hB : Bs ff 0 bd) (h8 : B8 bd) (hle : bd.length ≤ cap) (hcap : cap ≤ 100000) (hBF : BF ff) (hc16 : 16 ≤ cap) (hsu : su.toInt = (c31 bd : Int)) (hm : bd.length < cap ∨ (1 ≤ mc ∧ 2 * cap ≤ ms)) : Ctr l E yX0_append cX0_append 2 none 3 (mc) (ms) [.ref h, .int x] [(h, .inr (2, [.int tag, .int fi, .int se, .ref fb, .int sz, .int su])), (fb, aB E (cap) (ff))] (fun v w => v = none ∧ ∃ (q n : Nat) (f2 : Nat → Int32) (s u : Int32), s.toInt = ((bd.length + 1 : Nat) : Int) ∧ Bs f2 0 (bd ++ [u8 x]) ∧ BF f2 ∧ ((bd.length < cap ∧ n = cap) ∨ (bd.length = cap ∧ n = 2 * cap)) ∧ ((0 ≤ x.toInt ∧ x.toInt < 256) → u.toInt = (c31 (bd ++ [u8 x]) : Int)) ∧ w = [(h, .inr (2, [.int tag, .int fi, .int se, .ref q, .int s, .int u])), (q, aB E n f2)]) := by
  refine Ctr.intro (by decide) (Nat.le_of_ble_eq_true rfl) (fun g hgl hN C r F hi => ?_)
  subst hgl
  have hc31 := c31_le bd
  change G E g [(h, .inr (2, [.int tag, .int fi, .int se, .ref fb, .int sz, .int su])), (fb, aB E (cap) (ff))] 0 0 0 [(0, .ref h), (1, .int x)] []
  refine g_aload_n C dX0_append_0 0 rfl ?_
  refine gf_X0_25 C 0 rfl rfl dX0_append_1 ?_
  refine g_aload_n C dX0_append_4 0 rfl ?_
  refine gf_X0_11 C 0 rfl rfl dX0_append_5 ?_
  refine g_alenB C 1 rfl dX0_append_8 (by omega) (fun x8 e8 => ?_)
  refine g_icmp_lt C 29 dX0_append_9 (by decide) (fun c9 => ?_) (fun c9 => ?_)
  · refine g_aload_n C dX0_append_29 0 rfl ?_
    refine gf_X0_11 C 0 rfl rfl dX0_append_30 ?_
    refine g_aload_n C dX0_append_33 0 rfl ?_
    refine gf_X0_25 C 0 rfl rfl dX0_append_34 ?_
    refine g_iload_n C dX0_append_37 1 rfl ?_
    refine g_i2b C dX0_append_38 (fun x38 e38 => ?_)
    refine g_bastore C 1 rfl dX0_append_39 (0 + bd.length) (by omega) (by omega) ?_
    change G E g [(h, .inr (2, [.int tag, .int fi, .int se, .ref fb, .int sz, .int su])), (fb, aB E (cap) (upd (ff) (0 + bd.length) (sB (u8 x38))))] _ _ _ _ _
    refine g_aload_n C dX0_append_40 0 rfl ?_
    refine g_dup C dX0_append_41 rfl ?_
    refine gf_X0_25 C 0 rfl rfl dX0_append_42 ?_
    refine g_iconst C dX0_append_45 (by decide) (fun x45 e45 => ?_)
    refine g_iadd C dX0_append_46 (by omega) (fun x46 e46 => ?_)
    refine gp_X0_25 C 0 rfl (Nat.le_of_ble_eq_true rfl) rfl rfl dX0_append_47 ?_
    change G E g [(h, .inr (2, [.int tag, .int fi, .int se, .ref fb, .int x46, .int su])), (fb, aB E (cap) (upd (ff) (0 + bd.length) (sB (u8 x38))))] _ _ _ _ _
    refine g_iload_n C dX0_append_50 1 rfl ?_
    refine g_bipush C dX0_append_51 (by decide) (fun x51 e51 => ?_)
    refine g_icmp_ne C 66 dX0_append_53 (by decide) (fun c53 => ?_) (fun c53 => ?_)
    · exact g_vret C F dX0_append_66 (by omega) (by omega) (by first | exact ⟨rfl, _, _, _, _, _, by omega, ap_B hB e38, ap_F hBF e38, by omega, ap_c hsu (by omega) (by omega), rfl⟩ | exact ⟨rfl, _, _, _, _, _, by omega, ap_B (cpy_Bs hB hle) e38, ap_F (cpy_BF hBF BF_0) e38, by omega, ap_c hsu (by omega) (by omega), rfl⟩)
    · refine g_aload_n C dX0_append_56 0 rfl ?_
      refine g_dup C dX0_append_57 rfl ?_
      refine gf_X0_28 C 0 rfl rfl dX0_append_58 ?_
      refine g_iconst C dX0_append_61 (by decide) (fun x61 e61 => ?_)
      refine g_iadd C dX0_append_62 (by omega) (fun x62 e62 => ?_)
      refine gp_X0_28 C 0 rfl (Nat.le_of_ble_eq_true rfl) rfl rfl dX0_append_63 ?_
      change G E g [(h, .inr (2, [.int tag, .int fi, .int se, .ref fb, .int x46, .int x62])), (fb, aB E (cap) (upd (ff) (0 + bd.length) (sB (u8 x38))))] _ _ _ _ _
      exact g_vret C F dX0_append_66 (by omega) (by omega) (by first | exact ⟨rfl, _, _, _, _, _, by omega, ap_B hB e38, ap_F hBF e38, by omega, ap_c hsu (by omega) (by omega), rfl⟩ | exact ⟨rfl, _, _, _, _, _, by omega, ap_B (cpy_Bs hB hle) e38, ap_F (cpy_BF hBF BF_0) e38, by omega, ap_c hsu (by omega) (by omega), rfl⟩)
  · refine g_aload_n C dX0_append_12 0 rfl ?_
    refine g_aload_n C dX0_append_13 0 rfl ?_
    refine gf_X0_11 C 0 rfl rfl dX0_append_14 ?_
    refine g_aload_n C dX0_append_17 0 rfl ?_
    refine gf_X0_25 C 0 rfl rfl dX0_append_18 ?_
    refine g_iconst C dX0_append_21 (by decide) (fun x21 e21 => ?_)
    refine g_imul C dX0_append_22 (sz.toInt * 2) (by rw [e21]) (by omega) (fun x22 e22 => ?_)
    refine g_callS C r ms_X0_31 dX0_append_23 (c_J7_copyOf g.l E fb cap ff x22 (by omega) (by omega) (by omega) hBF) (wr := [(h, .inr (2, [.int tag, .int fi, .int se, .ref fb, .int sz, .int su]))]) (As := [.ref fb, .int x22]) (rest := [.ref h]) (Spl.at [0] [1] rfl rfl rfl) rfl (Nat.le_of_ble_eq_true rfl) (by decide) (by omega) (by omega) (fun v w h => ?_)
    obtain ⟨q23, rfl, rfl⟩ := h
    change G E g [(h, .inr (2, [.int tag, .int fi, .int se, .ref fb, .int sz, .int su])), (fb, aB E (cap) (ff)), (q23, aB E (2 * cap) (va_cpy ff (fun _ => 0) 0 0 cap))] _ _ _ _ [.ref q23, .ref h]
    refine gp_X0_11 C 0 rfl (Nat.le_of_ble_eq_true rfl) rfl rfl dX0_append_26 ?_
    change G E g [(h, .inr (2, [.int tag, .int fi, .int se, .ref q23, .int sz, .int su])), (fb, aB E (cap) (ff)), (q23, aB E (2 * cap) (va_cpy ff (fun _ => 0) 0 0 cap))] _ _ _ _ _
    refine g_aload_n C dX0_append_29 0 rfl ?_
    refine gf_X0_11 C 0 rfl rfl dX0_append_30 ?_
    refine g_aload_n C dX0_append_33 0 rfl ?_
    refine gf_X0_25 C 0 rfl rfl dX0_append_34 ?_
    refine g_iload_n C dX0_append_37 1 rfl ?_
    refine g_i2b C dX0_append_38 (fun x38 e38 => ?_)
    refine g_bastore C 2 rfl dX0_append_39 (0 + bd.length) (by omega) (by omega) ?_
    change G E g [(h, .inr (2, [.int tag, .int fi, .int se, .ref q23, .int sz, .int su])), (fb, aB E (cap) (ff)), (q23, aB E (2 * cap) (upd (va_cpy ff (fun _ => 0) 0 0 cap) (0 + bd.length) (sB (u8 x38))))] _ _ _ _ _
    refine g_aload_n C dX0_append_40 0 rfl ?_
    refine g_dup C dX0_append_41 rfl ?_
    refine gf_X0_25 C 0 rfl rfl dX0_append_42 ?_
    refine g_iconst C dX0_append_45 (by decide) (fun x45 e45 => ?_)
    refine g_iadd C dX0_append_46 (by omega) (fun x46 e46 => ?_)
    refine gp_X0_25 C 0 rfl (Nat.le_of_ble_eq_true rfl) rfl rfl dX0_append_47 ?_
    change G E g [(h, .inr (2, [.int tag, .int fi, .int se, .ref q23, .int x46, .int su])), (fb, aB E (cap) (ff)), (q23, aB E (2 * cap) (upd (va_cpy ff (fun _ => 0) 0 0 cap) (0 + bd.length) (sB (u8 x38))))] _ _ _ _ _
    refine g_iload_n C dX0_append_50 1 rfl ?_
    refine g_bipush C dX0_append_51 (by decide) (fun x51 e51 => ?_)
    refine g_icmp_ne C 66 dX0_append_53 (by decide) (fun c53 => ?_) (fun c53 => ?_)
    · refine g_perm [0, 2] rfl (ws' := [(h, .inr (2, [.int tag, .int fi, .int se, .ref q23, .int x46, .int su])), (q23, aB E (2 * cap) (upd (va_cpy ff (fun _ => 0) 0 0 cap) (0 + bd.length) (sB (u8 x38))))]) rfl ?_
      exact g_vret C F dX0_append_66 (by omega) (by omega) (by first | exact ⟨rfl, _, _, _, _, _, by omega, ap_B hB e38, ap_F hBF e38, by omega, ap_c hsu (by omega) (by omega), rfl⟩ | exact ⟨rfl, _, _, _, _, _, by omega, ap_B (cpy_Bs hB hle) e38, ap_F (cpy_BF hBF BF_0) e38, by omega, ap_c hsu (by omega) (by omega), rfl⟩)
    · refine g_aload_n C dX0_append_56 0 rfl ?_
      refine g_dup C dX0_append_57 rfl ?_
      refine gf_X0_28 C 0 rfl rfl dX0_append_58 ?_
      refine g_iconst C dX0_append_61 (by decide) (fun x61 e61 => ?_)
      refine g_iadd C dX0_append_62 (by omega) (fun x62 e62 => ?_)
      refine gp_X0_28 C 0 rfl (Nat.le_of_ble_eq_true rfl) rfl rfl dX0_append_63 ?_
      change G E g [(h, .inr (2, [.int tag, .int fi, .int se, .ref q23, .int x46, .int x62])), (fb, aB E (cap) (ff)), (q23, aB E (2 * cap) (upd (va_cpy ff (fun _ => 0) 0 0 cap) (0 + bd.length) (sB (u8 x38))))] _ _ _ _ _
      refine g_perm [0, 2] rfl (ws' := [(h, .inr (2, [.int tag, .int fi, .int se, .ref q23, .int x46, .int x62])), (q23, aB E (2 * cap) (upd (va_cpy ff (fun _ => 0) 0 0 cap) (0 + bd.length) (sB (u8 x38))))]) rfl ?_
      exact g_vret C F dX0_append_66 (by omega) (by omega) (by first | exact ⟨rfl, _, _, _, _, _, by omega, ap_B hB e38, ap_F hBF e38, by omega, ap_c hsu (by omega) (by omega), rfl⟩ | exact ⟨rfl, _, _, _, _, _, by omega, ap_B (cpy_Bs hB hle) e38, ap_F (cpy_BF hBF BF_0) e38, by omega, ap_c hsu (by omega) (by omega), rfl⟩)
