theorem kw_acopy : Cond.methodLink RJ7 150 arraycopyName ∈ GW ∧ Cond.native arraycopyName ∈ GW ∧ Cond.static arraycopyName ∈ GW ∧ Cond.initialized "java/lang/System" ∈ GW := ⟨kw1_226, kw1_228, kw1_227, kw1_8⟩
set_option maxHeartbeats 1000000 in
set_option maxRecDepth 10000 in
theorem c_J7_copyOf (l : Launch) (E : GE) (a cap : Nat) (ff : Nat → Int32) (x : Int32) (hx : x.toInt = ((2 * cap : Nat) : Int)) (hc0 : 1 ≤ cap) (hcap : cap ≤ 100000) (hBF : BF ff) : Ctr l E yJ7_copyOf_9075b cJ7_copyOf_9075b 3 (some (.array .byte)) 2 (1) (2 * cap) [.ref a, .int x] [(a, aB E (cap) (ff))] (fun v w => ∃ q : Nat, v = some (.ref q) ∧ w = [(a, aB E cap ff), (q, aB E (2 * cap) (va_cpy ff (fun _ => 0) 0 0 cap))]) := by
  refine Ctr.intro (by decide) (Nat.le_of_ble_eq_true rfl) (fun g hgl hN C r F hi => ?_)
  subst hgl
  change G E g [(a, aB E (cap) (ff))] 0 0 0 [(0, .ref a), (1, .int x)] []
  refine g_iload_n C dJ7_copyOf_9075b_0 1 rfl ?_
  refine g_aload_n C dJ7_copyOf_9075b_1 0 rfl ?_
  refine g_alenB C 0 rfl dJ7_copyOf_9075b_2 (by omega) (fun x2 e2 => ?_)
  refine g_icmp_ne C 14 dJ7_copyOf_9075b_3 (by decide) (fun c3 => ?_) (fun c3 => ?_)
  · refine g_iload_n C dJ7_copyOf_9075b_14 1 rfl ?_
    refine g_newB C r dJ7_copyOf_9075b_15 (2 * cap) (by omega) (by omega) (by omega) (by omega) (fun q15 => ?_)
    change G E g [(a, aB E (cap) (ff)), (q15, aB E (2 * cap) (fun _ => 0))] _ _ _ _ _
    refine g_astore_n C dJ7_copyOf_9075b_17 (by omega) (lv' := [(2, .ref q15), (0, .ref a), (1, .int x)]) rfl ?_
    refine g_aload_n C dJ7_copyOf_9075b_18 1 rfl ?_
    refine g_iconst C dJ7_copyOf_9075b_19 (by decide) (fun x19 e19 => ?_)
    refine g_aload_n C dJ7_copyOf_9075b_20 0 rfl ?_
    refine g_iconst C dJ7_copyOf_9075b_21 (by decide) (fun x21 e21 => ?_)
    refine g_aload_n C dJ7_copyOf_9075b_22 1 rfl ?_
    refine g_alenB C 0 rfl dJ7_copyOf_9075b_23 (by omega) (fun x23 e23 => ?_)
    refine g_iload_n C dJ7_copyOf_9075b_24 2 rfl ?_
    refine g_mmin C r (by decide) kw_minJ7 dJ7_copyOf_9075b_25 (Nat.le_of_ble_eq_true rfl) (by omega) (by omega) (fun x25 e25 => ?_)
    refine g_copyB C r (by decide) kw_acopy.1 kw_acopy.2.1 kw_acopy.2.2.1 kw_acopy.2.2.2 dJ7_copyOf_9075b_28 0 1 rfl rfl (by omega) (by omega) cap (by omega) (by omega) (by omega) hBF (Nat.le_of_ble_eq_true rfl) ?_
    change G E g [(a, aB E (cap) (ff)), (q15, aB E (2 * cap) (va_cpy ff (fun _ => 0) 0 0 cap))] _ _ _ _ _
    refine g_aload_n C dJ7_copyOf_9075b_31 0 rfl ?_
    exact g_aret C F dJ7_copyOf_9075b_32 rfl (Or.inr ⟨_, rfl⟩) (Or.inr ⟨_, rfl⟩) (by omega) (by omega) (by exact ⟨_, rfl, rfl⟩)
  · exfalso; omega
set_option maxHeartbeats 1000000 in
set_option maxRecDepth 10000 in
theorem c_J7_fill (l : Launch) (E : GE) (a n : Nat) (ff : Nat → Int32) (x : Int32) (hn : n ≤ 100000) : Ctr l E yJ7_fill_031fb cJ7_fill_031fb 4 none 0 (0) (0) [.ref a, .int x] [(a, aB E (n) (ff))] (oV [(a, aB E n (fun j => if j < n then sB (u8 x) else ff j))]) := by
  refine Ctr.intro (by decide) (Nat.le_of_ble_eq_true rfl) (fun g hgl hN C r F hi => ?_)
  subst hgl
  change G E g [(a, aB E (n) (ff))] 0 0 0 [(0, .ref a), (1, .int x)] []
  refine g_iconst C dJ7_fill_031fb_0 (by decide) (fun x0 e0 => ?_)
  refine g_istore_n C dJ7_fill_031fb_1 (by omega) (lv' := [(2, .int x0), (0, .ref a), (1, .int x)]) rfl ?_
  refine g_aload_n C dJ7_fill_031fb_2 1 rfl ?_
  refine g_alenB C 0 rfl dJ7_fill_031fb_3 (by omega) (fun x3 e3 => ?_)
  refine g_istore_n C dJ7_fill_031fb_4 (by omega) (lv' := [(3, .int x3), (2, .int x0), (0, .ref a), (1, .int x)]) rfl ?_
  have loop5 : ∀ (nn : Nat) (n2 : Int32) (fk : Nat → Int32) (k : Nat) (hm : n - k < nn) (hk : k ≤ n) (hp : n2.toInt = (k : Int)) (hf : fk = fun j => if j < k then sB (u8 x) else ff j), G E g [(a, aB E (n) (fk))] 0 0 5 [(0, .ref a), (1, .int x), (2, .int n2), (3, .int x3)] [] := by
    intro nn
    induction nn with
    | zero => intro n2 fk k hm hk hp hf; omega
    | succ nn ih5 =>
      intro n2 fk k hm hk hp hf
      refine g_iload_n C dJ7_fill_031fb_5 2 rfl ?_
      refine g_iload_n C dJ7_fill_031fb_6 3 rfl ?_
      refine g_icmp_ge C 20 dJ7_fill_031fb_7 (by decide) (fun c7 => ?_) (fun c7 => ?_)
      · exact g_vret C F dJ7_fill_031fb_20 (by omega) (by omega) (by refine ⟨rfl, ?_⟩; rw [hf, show k = n by omega])
      · refine g_aload_n C dJ7_fill_031fb_10 0 rfl ?_
        refine g_iload_n C dJ7_fill_031fb_11 2 rfl ?_
        refine g_iload_n C dJ7_fill_031fb_12 1 rfl ?_
        refine g_bastore C 0 rfl dJ7_fill_031fb_13 (k) (by omega) (by omega) ?_
        change G E g [(a, aB E (n) (upd (fk) (k) (sB (u8 x))))] _ _ _ _ _
        refine g_iinc C dJ7_fill_031fb_14 2 rfl (by omega) (by decide) (by omega) (fun x14 e14 => ?_)
        refine g_lvE (lv' := [(2, .int x14), (0, .ref a), (1, .int x), (3, .int x3)]) rfl ?_
        refine g_goto C 5 dJ7_fill_031fb_17 (by decide) ?_
        refine g_lv [1, 2, 0, 3] (lv' := [(0, .ref a), (1, .int x), (2, .int x14), (3, .int x3)]) rfl ?_
        exact ih5 (x14) (upd (fk) (k) (sB (u8 x))) (k + 1) (by omega) (by omega) (by omega) (by rw [hf]; exact fill_step _ _ _)
  refine g_lv [2, 3, 1, 0] (lv' := [(0, .ref a), (1, .int x), (2, .int x0), (3, .int x3)]) rfl ?_
  exact loop5 _ (x0) (ff) (0) (Nat.lt_succ_self _) (by omega) (by omega) (by funext j; simp)
theorem fill_pre : True := trivial
set_option maxHeartbeats 1000000 in
set_option maxRecDepth 10000 in
theorem c_X2_init (l : Launch) (E : GE) (h : Nat) (z : Int32)  : Ctr l E yX2_init cX2_init 1 none 1 (1) (256) [.ref h] [(h, .inr (4, [.null, .int z]))] (fun v w => v = none ∧ ∃ (q : Nat) (s : Int32), s.toInt = 0 ∧ w = [(h, .inr (4, [.ref q, .int s])), (q, aB E 256 (fun _ => 0))]) := by
  refine Ctr.intro (by decide) (Nat.le_of_ble_eq_true rfl) (fun g hgl hN C r F hi => ?_)
  subst hgl
  change G E g [(h, .inr (4, [.null, .int z]))] 0 0 0 [(0, .ref h)] []
  refine g_aload_n C dX2_init_0 0 rfl ?_
  refine g_objInit C r (by decide) kw1_45 dX2_init_1 (Nat.le_of_ble_eq_true rfl) ?_
  refine g_aload_n C dX2_init_4 0 rfl ?_
  refine g_sipush C dX2_init_5 (by decide) (fun x5 e5 => ?_)
  refine g_newB C r dX2_init_8 (256) (by omega) (by omega) (by omega) (by omega) (fun q8 => ?_)
  change G E g [(h, .inr (4, [.null, .int z])), (q8, aB E (256) (fun _ => 0))] _ _ _ _ _
  refine gp_X2_9 C 0 rfl (Nat.le_of_ble_eq_true rfl) rfl rfl dX2_init_10 ?_
  change G E g [(h, .inr (4, [.ref q8, .int z])), (q8, aB E (256) (fun _ => 0))] _ _ _ _ _
  refine g_aload_n C dX2_init_13 0 rfl ?_
  refine g_iconst C dX2_init_14 (by decide) (fun x14 e14 => ?_)
  refine gp_X2_13 C 0 rfl (Nat.le_of_ble_eq_true rfl) rfl rfl dX2_init_15 ?_
  change G E g [(h, .inr (4, [.ref q8, .int x14])), (q8, aB E (256) (fun _ => 0))] _ _ _ _ _
  exact g_vret C F dX2_init_18 (by omega) (by omega) (by exact ⟨rfl, _, _, by omega, rfl⟩)
set_option maxHeartbeats 1000000 in
set_option maxRecDepth 10000 in
theorem c_X2_begin (l : Launch) (E : GE) (h ob cap : Nat) (of : Nat → Int32) (os x : Int32) (t mc ms : Nat) (hx : x.toInt = (t : Int)) (ht : t ≤ 200000) (hcp : cap ≤ 200000) (hm : t ≤ cap ∨ (1 ≤ mc ∧ max t (2 * cap) ≤ ms)) : Ctr l E yX2_begin cX2_begin 2 none 1 (mc) (ms) [.ref h, .int x] [(h, .inr (4, [.ref ob, .int os])), (ob, aB E (cap) (of))] (fun v w => v = none ∧ ∃ (q n : Nat) (f2 : Nat → Int32) (s : Int32), s.toInt = 0 ∧ ((t ≤ cap ∧ n = cap) ∨ (cap < t ∧ n = max t (2 * cap))) ∧ w = [(h, .inr (4, [.ref q, .int s])), (q, aB E n f2)]) := by
  refine Ctr.intro (by decide) (Nat.le_of_ble_eq_true rfl) (fun g hgl hN C r F hi => ?_)
  subst hgl
  change G E g [(h, .inr (4, [.ref ob, .int os])), (ob, aB E (cap) (of))] 0 0 0 [(0, .ref h), (1, .int x)] []
  refine g_iload_n C dX2_begin_0 1 rfl ?_
  refine g_aload_n C dX2_begin_1 0 rfl ?_
  refine gf_X2_9 C 0 rfl rfl dX2_begin_2 ?_
  refine g_alenB C 1 rfl dX2_begin_5 (by omega) (fun x5 e5 => ?_)
  refine g_icmp_le C 26 dX2_begin_6 (by decide) (fun c6 => ?_) (fun c6 => ?_)
  · refine g_aload_n C dX2_begin_26 0 rfl ?_
    refine g_iconst C dX2_begin_27 (by decide) (fun x27 e27 => ?_)
    refine gp_X2_13 C 0 rfl (Nat.le_of_ble_eq_true rfl) rfl rfl dX2_begin_28 ?_
    change G E g [(h, .inr (4, [.ref ob, .int x27])), (ob, aB E (cap) (of))] _ _ _ _ _
    exact g_vret C F dX2_begin_31 (by omega) (by omega) (by exact ⟨rfl, _, _, _, _, by omega, by omega, rfl⟩)
  · refine g_aload_n C dX2_begin_9 0 rfl ?_
    refine g_iload_n C dX2_begin_10 1 rfl ?_
    refine g_iconst C dX2_begin_11 (by decide) (fun x11 e11 => ?_)
    refine g_aload_n C dX2_begin_12 0 rfl ?_
    refine gf_X2_9 C 0 rfl rfl dX2_begin_13 ?_
    refine g_alenB C 1 rfl dX2_begin_16 (by omega) (fun x16 e16 => ?_)
    refine g_imul C dX2_begin_17 (2 * x16.toInt) (by rw [e11]) (by omega) (fun x17 e17 => ?_)
    refine g_mmax C r (by decide) kw_maxX2 dX2_begin_18 (Nat.le_of_ble_eq_true rfl) (by omega) (by omega) (fun x18 e18 => ?_)
    refine g_newB C r dX2_begin_21 (max t (2 * cap)) (by omega) (by omega) (by omega) (by omega) (fun q21 => ?_)
    change G E g [(h, .inr (4, [.ref ob, .int os])), (ob, aB E (cap) (of)), (q21, aB E (max t (2 * cap)) (fun _ => 0))] _ _ _ _ _
    refine gp_X2_9 C 0 rfl (Nat.le_of_ble_eq_true rfl) rfl rfl dX2_begin_23 ?_
    change G E g [(h, .inr (4, [.ref q21, .int os])), (ob, aB E (cap) (of)), (q21, aB E (max t (2 * cap)) (fun _ => 0))] _ _ _ _ _
    refine g_aload_n C dX2_begin_26 0 rfl ?_
    refine g_iconst C dX2_begin_27 (by decide) (fun x27 e27 => ?_)
    refine gp_X2_13 C 0 rfl (Nat.le_of_ble_eq_true rfl) rfl rfl dX2_begin_28 ?_
    change G E g [(h, .inr (4, [.ref q21, .int x27])), (ob, aB E (cap) (of)), (q21, aB E (max t (2 * cap)) (fun _ => 0))] _ _ _ _ _
    refine g_perm [0, 2] rfl (ws' := [(h, .inr (4, [.ref q21, .int x27])), (q21, aB E (max t (2 * cap)) (fun _ => 0))]) rfl ?_
    exact g_vret C F dX2_begin_31 (by omega) (by omega) (by exact ⟨rfl, _, _, _, _, by omega, by omega, rfl⟩)
set_option maxHeartbeats 1000000 in
set_option maxRecDepth 10000 in
theorem c_X2_emit (l : Launch) (E : GE) (h ob cap : Nat) (of : Nat → Int32) (os : Int32) (o : List Nat) (x : Int32) (hos : os.toInt = (o.length : Int)) (hB : Bs of 0 o) (hcp : cap ≤ 400000) (hl : o.length < cap) : Ctr l E yX2_emit cX2_emit 2 none 0 (0) (0) [.ref h, .int x] [(h, .inr (4, [.ref ob, .int os])), (ob, aB E (cap) (of))] (fun v w => v = none ∧ ∃ (f2 : Nat → Int32) (s : Int32), s.toInt = ((o.length + 1 : Nat) : Int) ∧ Bs f2 0 (o ++ [u8 x]) ∧ w = [(h, .inr (4, [.ref ob, .int s])), (ob, aB E cap f2)]) := by
  refine Ctr.intro (by decide) (Nat.le_of_ble_eq_true rfl) (fun g hgl hN C r F hi => ?_)
  subst hgl
  change G E g [(h, .inr (4, [.ref ob, .int os])), (ob, aB E (cap) (of))] 0 0 0 [(0, .ref h), (1, .int x)] []
  refine g_aload_n C dX2_emit_0 0 rfl ?_
  refine gf_X2_13 C 0 rfl rfl dX2_emit_1 ?_
  refine g_aload_n C dX2_emit_4 0 rfl ?_
  refine gf_X2_9 C 0 rfl rfl dX2_emit_5 ?_
  refine g_alenB C 1 rfl dX2_emit_8 (by omega) (fun x8 e8 => ?_)
  refine g_icmp_ge C 33 dX2_emit_9 (by decide) (fun c9 => ?_) (fun c9 => ?_)
  · exfalso; omega
  · refine g_aload_n C dX2_emit_12 0 rfl ?_
    refine gf_X2_9 C 0 rfl rfl dX2_emit_13 ?_
    refine g_aload_n C dX2_emit_16 0 rfl ?_
    refine gf_X2_13 C 0 rfl rfl dX2_emit_17 ?_
    refine g_iload_n C dX2_emit_20 1 rfl ?_
    refine g_i2b C dX2_emit_21 (fun x21 e21 => ?_)
    refine g_bastore C 1 rfl dX2_emit_22 (0 + o.length) (by omega) (by omega) ?_
    change G E g [(h, .inr (4, [.ref ob, .int os])), (ob, aB E (cap) (upd (of) (0 + o.length) (sB (u8 x21))))] _ _ _ _ _
    refine g_aload_n C dX2_emit_23 0 rfl ?_
    refine g_dup C dX2_emit_24 rfl ?_
    refine gf_X2_13 C 0 rfl rfl dX2_emit_25 ?_
    refine g_iconst C dX2_emit_28 (by decide) (fun x28 e28 => ?_)
    refine g_iadd C dX2_emit_29 (by omega) (fun x29 e29 => ?_)
    refine gp_X2_13 C 0 rfl (Nat.le_of_ble_eq_true rfl) rfl rfl dX2_emit_30 ?_
    change G E g [(h, .inr (4, [.ref ob, .int x29])), (ob, aB E (cap) (upd (of) (0 + o.length) (sB (u8 x21))))] _ _ _ _ _
    exact g_vret C F dX2_emit_33 (by omega) (by omega) (by refine ⟨rfl, _, _, by omega, ?_, rfl⟩; rw [e21, sB_u8_sB]; exact Bs_snoc hB (u8 x))
set_option maxHeartbeats 1000000 in
set_option maxRecDepth 10000 in
theorem c_X2_emitDigits (l : Launch) (E : GE) (h ob cap : Nat) (of : Nat → Int32) (os : Int32) (o : List Nat) (x y : Int32) (num k : Nat) (hos : os.toInt = (o.length : Int)) (hB : Bs of 0 o) (hcp : cap ≤ 400000) (hx : x.toInt = (num : Int)) (hy : y.toInt = (k : Int)) (hk5 : k ≤ 100) (hl : o.length + k ≤ cap) (hnu : num < 2147483648) : Ctr l E yX2_emitDigits cX2_emitDigits 6 none 1 (0) (0) [.ref h, .int x, .int y] [(h, .inr (4, [.ref ob, .int os])), (ob, aB E (cap) (of))] (fun v w => v = none ∧ ∃ (f2 : Nat → Int32) (s : Int32), s.toInt = ((o.length + k : Nat) : Int) ∧ Bs f2 0 (o ++ dg num k) ∧ w = [(h, .inr (4, [.ref ob, .int s])), (ob, aB E cap f2)]) := by
  refine Ctr.intro (by decide) (Nat.le_of_ble_eq_true rfl) (fun g hgl hN C r F hi => ?_)
  subst hgl
  change G E g [(h, .inr (4, [.ref ob, .int os])), (ob, aB E (cap) (of))] 0 0 0 [(0, .ref h), (1, .int x), (2, .int y)] []
  refine g_iload_n C dX2_emitDigits_0 1 rfl ?_
  refine g_istore_n C dX2_emitDigits_1 (by omega) (lv' := [(3, .int x), (0, .ref h), (1, .int x), (2, .int y)]) rfl ?_
  refine g_aload_n C dX2_emitDigits_2 1 rfl ?_
  refine gf_X2_13 C 0 rfl rfl dX2_emitDigits_3 ?_
  refine g_istore C dX2_emitDigits_6 (by omega) (lv' := [(4, .int os), (3, .int x), (0, .ref h), (1, .int x), (2, .int y)]) rfl ?_
  refine g_iconst C dX2_emitDigits_8 (by decide) (fun x8 e8 => ?_)
  refine g_istore C dX2_emitDigits_9 (by omega) (lv' := [(5, .int x8), (4, .int os), (3, .int x), (0, .ref h), (1, .int x), (2, .int y)]) rfl ?_
  have loop11 : ∀ (nn : Nat) (n5 : Int32) (sk : Int32) (fk : Nat → Int32) (i : Nat) (hm : k - i < nn) (hi : i ≤ k) (hp : n5.toInt = (i : Int)) (hs : sk.toInt = ((o.length + i : Nat) : Int)) (hb : Bs fk 0 (o ++ List.replicate i 48)), G E g [(h, .inr (4, [.ref ob, .int sk])), (ob, aB E (cap) (fk))] 0 0 11 [(0, .ref h), (1, .int x), (2, .int y), (3, .int x), (4, .int os), (5, .int n5)] [] := by
    intro nn
    induction nn with
    | zero => intro n5 sk fk i hm hi hp hs hb; omega
    | succ nn ih11 =>
      intro n5 sk fk i hm hi hp hs hb
      refine g_iload C dX2_emitDigits_11 5 rfl ?_
      refine g_iload_n C dX2_emitDigits_13 2 rfl ?_
      refine g_icmp_ge C 29 dX2_emitDigits_14 (by decide) (fun c14 => ?_) (fun c14 => ?_)
      · refine g_aload_n C dX2_emitDigits_29 0 rfl ?_
        refine gf_X2_13 C 0 rfl rfl dX2_emitDigits_30 ?_
        refine g_iconst C dX2_emitDigits_33 (by decide) (fun x33 e33 => ?_)
        refine g_isub C dX2_emitDigits_34 (by omega) (fun x34 e34 => ?_)
        refine g_istore C dX2_emitDigits_35 (by omega) (lv' := [(5, .int x34), (0, .ref h), (1, .int x), (2, .int y), (3, .int x), (4, .int os)]) rfl ?_
        have loop37 : ∀ (nn : Nat) (m5 : Int32) (rs : Int32) (fm : Nat → Int32) (j : Nat) (hm : j < nn) (hj : j ≤ k) (hp5 : m5.toInt = (o.length : Int) + (j : Int) - 1) (hr : rs.toInt = ((num / 10 ^ (k - j) : Nat) : Int)) (hbm : Bs fm 0 (o ++ List.replicate j 48 ++ dg num (k - j))), G E g [(h, .inr (4, [.ref ob, .int sk])), (ob, aB E (cap) (fm))] 0 0 37 [(0, .ref h), (1, .int x), (2, .int y), (3, .int rs), (4, .int os), (5, .int m5)] [] := by
          intro nn
          induction nn with
          | zero => intro m5 rs fm j hm hj hp5 hr hbm; omega
          | succ nn ih37 =>
            intro m5 rs fm j hm hj hp5 hr hbm
            have hr0 : 0 ≤ rs.toInt := by rw [hr]; exact Int.natCast_nonneg _
            refine g_iload C dX2_emitDigits_37 5 rfl ?_
            refine g_iload C dX2_emitDigits_39 4 rfl ?_
            refine g_icmp_lt C 70 dX2_emitDigits_41 (by decide) (fun c41 => ?_) (fun c41 => ?_)
            · exact g_vret C F dX2_emitDigits_70 (by omega) (by omega) (by exact ⟨rfl, _, _, by omega, dg_end hbm (by omega), rfl⟩)
            · refine g_aload_n C dX2_emitDigits_44 0 rfl ?_
              refine gf_X2_9 C 0 rfl rfl dX2_emitDigits_45 ?_
              refine g_iload C dX2_emitDigits_48 5 rfl ?_
              refine g_bipush C dX2_emitDigits_50 (by decide) (fun x50 e50 => ?_)
              refine g_iload_n C dX2_emitDigits_52 3 rfl ?_
              refine g_bipush C dX2_emitDigits_53 (by decide) (fun x53 e53 => ?_)
              refine g_irem C dX2_emitDigits_55 (10) (e53) (by omega) (fun x55 e55 => ?_)
              refine g_iadd C dX2_emitDigits_56 (by omega) (fun x56 e56 => ?_)
              refine g_i2b C dX2_emitDigits_57 (fun x57 e57 => ?_)
              refine g_bastore C 1 rfl dX2_emitDigits_58 (o.length + j - 1) (by omega) (by omega) ?_
              change G E g [(h, .inr (4, [.ref ob, .int sk])), (ob, aB E (cap) (upd (fm) (o.length + j - 1) (sB (u8 x57))))] _ _ _ _ _
              refine g_iload_n C dX2_emitDigits_59 3 rfl ?_
              refine g_bipush C dX2_emitDigits_60 (by decide) (fun x60 e60 => ?_)
              refine g_idiv C dX2_emitDigits_62 (10) (e60) (by omega) (fun x62 e62 => ?_)
              refine g_istore_n C dX2_emitDigits_63 (by omega) (lv' := [(3, .int x62), (0, .ref h), (1, .int x), (2, .int y), (4, .int os), (5, .int m5)]) rfl ?_
              refine g_iinc C dX2_emitDigits_64 5 rfl (by omega) (by decide) (by omega) (fun x64 e64 => ?_)
              refine g_lvE (lv' := [(5, .int x64), (3, .int x62), (0, .ref h), (1, .int x), (2, .int y), (4, .int os)]) rfl ?_
              refine g_goto C 37 dX2_emitDigits_67 (by decide) ?_
              refine g_lv [2, 3, 4, 1, 5, 0] (lv' := [(0, .ref h), (1, .int x), (2, .int y), (3, .int x62), (4, .int os), (5, .int x64)]) rfl ?_
              exact ih37 (x64) (x62) (upd (fm) (o.length + j - 1) (sB (u8 x57))) (j - 1) (by omega) (by omega) (by omega) (by obtain ⟨j, rfl⟩ : ∃ z, j = z + 1 := ⟨j - 1, by omega⟩; rw [e62, hr, show k - (j + 1 - 1) = k - (j + 1) + 1 by omega, Nat.pow_succ, ← Nat.div_div_eq_div_mul]; rfl) (by obtain ⟨j, rfl⟩ : ∃ z, j = z + 1 := ⟨j - 1, by omega⟩; exact dg_step hbm (by omega) e57 e56 e50 e55 hr)
        refine g_lv [1, 2, 3, 4, 5, 0] (lv' := [(0, .ref h), (1, .int x), (2, .int y), (3, .int x), (4, .int os), (5, .int x34)]) rfl ?_
        exact loop37 _ (x34) (x) (fk) (k) (Nat.lt_succ_self _) (by omega) (by omega) (by rw [show k - k = 0 by omega]; simpa using hx) (by rw [show i = k by omega] at hb; rw [show k - k = 0 by omega]; simpa [dg] using hb)
      · refine g_aload_n C dX2_emitDigits_17 0 rfl ?_
        refine g_bipush C dX2_emitDigits_18 (by decide) (fun x18 e18 => ?_)
        refine g_callV C r mv_X2_23 dX2_emitDigits_20 (c_X2_emit g.l E h ob cap fk sk (o ++ List.replicate i 48) x18 (by simp; omega) hb (by omega) (by simp; omega)) (wr := []) (As := [.int x18]) (rest := []) (Spl.at [] [0, 1] rfl rfl rfl) 0 rfl rfl rfl rfl (Nat.le_of_ble_eq_true rfl) (by decide) (by omega) (by omega) (fun v w h => ?_)
        obtain ⟨rfl, f20, s20, es20, eb20, rfl⟩ := h
        change G E g [(h, .inr (4, [.ref ob, .int s20])), (ob, aB E (cap) (f20))] _ _ _ _ []
        refine g_iinc C dX2_emitDigits_23 5 rfl (by omega) (by decide) (by omega) (fun x23 e23 => ?_)
        refine g_lvE (lv' := [(5, .int x23), (0, .ref h), (1, .int x), (2, .int y), (3, .int x), (4, .int os)]) rfl ?_
        refine g_goto C 11 dX2_emitDigits_26 (by decide) ?_
        refine g_lv [1, 2, 3, 4, 5, 0] (lv' := [(0, .ref h), (1, .int x), (2, .int y), (3, .int x), (4, .int os), (5, .int x23)]) rfl ?_
        exact ih11 (x23) (s20) (f20) (i + 1) (by omega) (by omega) (by omega) (by simp at es20; omega) (by rw [List.replicate_succ', ← List.append_assoc]; rw [u8_of (n := 48) e18 (by omega)] at eb20; exact eb20)
  refine g_lv [3, 4, 5, 2, 1, 0] (lv' := [(0, .ref h), (1, .int x), (2, .int y), (3, .int x), (4, .int os), (5, .int x8)]) rfl ?_
  exact loop11 _ (x8) (os) (of) (0) (Nat.lt_succ_self _) (by omega) (by omega) (by omega) (by simpa using hB)
set_option maxHeartbeats 1000000 in
set_option maxRecDepth 10000 in
theorem c_X2_has (l : Launch) (E : GE) (h ob : Nat) (os x : Int32)  : Ctr l E yX2_has cX2_has 2 (some .boolean) 0 (0) (0) [.ref h, .int x] [(h, .inr (4, [.ref ob, .int os]))] (oI (fun r => (r.toInt = 1 ∧ 0 ≤ x.toInt ∧ x.toInt < os.toInt) ∨ (r.toInt = 0 ∧ ¬ (0 ≤ x.toInt ∧ x.toInt < os.toInt))) [(h, .inr (4, [.ref ob, .int os]))]) := by
  refine Ctr.intro (by decide) (Nat.le_of_ble_eq_true rfl) (fun g hgl hN C r F hi => ?_)
  subst hgl
  change G E g [(h, .inr (4, [.ref ob, .int os]))] 0 0 0 [(0, .ref h), (1, .int x)] []
  refine g_iload_n C dX2_has_0 1 rfl ?_
  refine g_if_lt C 16 dX2_has_1 (by decide) (fun c1 => ?_) (fun c1 => ?_)
  · refine g_iconst C dX2_has_16 (by decide) (fun x16 e16 => ?_)
    exact g_iret C F dX2_has_17 rfl (nz_b x16 (by omega)) (by omega) (by omega) (by exact ⟨_, rfl, by omega, rfl⟩)
  · refine g_iload_n C dX2_has_4 1 rfl ?_
    refine g_aload_n C dX2_has_5 0 rfl ?_
    refine gf_X2_13 C 0 rfl rfl dX2_has_6 ?_
    refine g_icmp_ge C 16 dX2_has_9 (by decide) (fun c9 => ?_) (fun c9 => ?_)
    · refine g_iconst C dX2_has_16 (by decide) (fun x16 e16 => ?_)
      exact g_iret C F dX2_has_17 rfl (nz_b x16 (by omega)) (by omega) (by omega) (by exact ⟨_, rfl, by omega, rfl⟩)
    · refine g_iconst C dX2_has_12 (by decide) (fun x12 e12 => ?_)
      refine g_goto C 17 dX2_has_13 (by decide) ?_
      exact g_iret C F dX2_has_17 rfl (nz_b x12 (by omega)) (by omega) (by omega) (by exact ⟨_, rfl, by omega, rfl⟩)
