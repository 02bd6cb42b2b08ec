set_option maxHeartbeats 1000000 in
set_option maxRecDepth 10000 in
theorem c_X4_isMark (l : Launch) (E : GE) (x : Int32)  : Ctr l E yX4_isMark cX4_isMark 1 (some .boolean) 0 (0) (0) [.int x] [] (oI (fun r => (r.toInt = 1 ∧ 29 ≤ x.toInt ∧ x.toInt ≤ 31) ∨ (r.toInt = 0 ∧ ¬ (29 ≤ x.toInt ∧ x.toInt ≤ 31))) []) := by
  refine Ctr.intro (by decide) (Nat.le_of_ble_eq_true rfl) (fun g hgl hN C r F hi => ?_)
  subst hgl
  change G E g [] 0 0 0 [(0, .int x)] []
  refine g_iload_n C dX4_isMark_0 0 rfl ?_
  refine g_bipush C dX4_isMark_1 (by decide) (fun x1 e1 => ?_)
  refine g_icmp_lt C 16 dX4_isMark_3 (by decide) (fun c3 => ?_) (fun c3 => ?_)
  · refine g_iconst C dX4_isMark_16 (by decide) (fun x16 e16 => ?_)
    exact g_iret C F dX4_isMark_17 rfl (nz_b x16 (by omega)) (Nat.le_refl _) (Nat.le_refl _) (by exact ⟨_, rfl, by omega, rfl⟩)
  · refine g_iload_n C dX4_isMark_6 0 rfl ?_
    refine g_bipush C dX4_isMark_7 (by decide) (fun x7 e7 => ?_)
    refine g_icmp_gt C 16 dX4_isMark_9 (by decide) (fun c9 => ?_) (fun c9 => ?_)
    · refine g_iconst C dX4_isMark_16 (by decide) (fun x16 e16 => ?_)
      exact g_iret C F dX4_isMark_17 rfl (nz_b x16 (by omega)) (Nat.le_refl _) (Nat.le_refl _) (by exact ⟨_, rfl, by omega, rfl⟩)
    · refine g_iconst C dX4_isMark_12 (by decide) (fun x12 e12 => ?_)
      refine g_goto C 17 dX4_isMark_13 (by decide) ?_
      exact g_iret C F dX4_isMark_17 rfl (nz_b x12 (by omega)) (Nat.le_refl _) (Nat.le_refl _) (by exact ⟨_, rfl, by omega, rfl⟩)
set_option maxHeartbeats 1000000 in
set_option maxRecDepth 10000 in
theorem c_X4_look (l : Launch) (E : GE) (m ib : Nat) (f : Nat → Int32) (sz pl wr : Int32) (u0 u4 u5 u6 u7 u8 u9 u10 u11 u12 u13 u14 : Value) (S P : Nat) (x : Int32) (k : Nat) (hS : sz.toInt = (S : Int)) (hP : pl.toInt = (P : Int)) (hPS : P ≤ S) (hSm : S ≤ 1500) (hx : x.toInt = (k : Int)) (hl : k < S - P) : Ctr l E yX4_look cX4_look 2 (some .int) 0 (0) (0) [.ref m, .int x] [(m, .inr (6, [u0, .ref ib, .int sz, .int pl, u4, u5, u6, u7, u8, u9, u10, u11, u12, u13, u14, .int wr])), (ib, aB E (1500) (f))] (oI (fun r => r.toInt = (lk f P k : Int)) [(m, .inr (6, [u0, .ref ib, .int sz, .int pl, u4, u5, u6, u7, u8, u9, u10, u11, u12, u13, u14, .int wr])), (ib, aB E (1500) (f))]) := by
  refine Ctr.intro (by decide) (Nat.le_of_ble_eq_true rfl) (fun g hgl hN C r F hi => ?_)
  subst hgl
  change G E g [(m, .inr (6, [u0, .ref ib, .int sz, .int pl, u4, u5, u6, u7, u8, u9, u10, u11, u12, u13, u14, .int wr])), (ib, aB E (1500) (f))] 0 0 0 [(0, .ref m), (1, .int x)] []
  refine g_aload_n C dX4_look_0 0 rfl ?_
  refine gf_X4_7 C 0 rfl rfl dX4_look_1 ?_
  refine g_aload_n C dX4_look_4 0 rfl ?_
  refine gf_X4_44 C 0 rfl rfl dX4_look_5 ?_
  refine g_iload_n C dX4_look_8 1 rfl ?_
  refine g_iadd C dX4_look_9 (by omega) (fun x9 e9 => ?_)
  refine g_baload C 1 rfl dX4_look_10 (P + k) (by omega) (by omega) (fun x10 e10 => ?_)
  refine g_sipush C dX4_look_11 (by decide) (fun x11 e11 => ?_)
  refine g_iand255 C dX4_look_14 e11 (fun x14 e14 l14 => ?_)
  exact g_iret C F dX4_look_15 rfl rfl (Nat.le_refl _) (Nat.le_refl _) (by refine ⟨_, rfl, ?_, rfl⟩; show _ = _; rw [e14, e10]; rfl)
set_option maxHeartbeats 1000000 in
set_option maxRecDepth 10000 in
theorem c_X4_bad (l : Launch) (E : GE) (m ib : Nat) (sz pl wr : Int32) (u0 u4 u5 u6 u7 u8 u9 u10 u11 u12 u13 u14 : Value) (x : Int32)  : Ctr l E yX4_bad cX4_bad 2 (some .boolean) 0 (0) (0) [.ref m, .int x] [(m, .inr (6, [u0, .ref ib, .int sz, .int pl, u4, u5, u6, u7, u8, u9, u10, u11, u12, u13, u14, .int wr]))] (oI (fun r => r.toInt = 0) [(m, .inr (6, [u0, .ref ib, .int sz, .int pl, u4, u5, u6, u7, u8, u9, u10, u11, u12, u13, u14, .int x]))]) := by
  refine Ctr.intro (by decide) (Nat.le_of_ble_eq_true rfl) (fun g hgl hN C r F hi => ?_)
  subst hgl
  change G E g [(m, .inr (6, [u0, .ref ib, .int sz, .int pl, u4, u5, u6, u7, u8, u9, u10, u11, u12, u13, u14, .int wr]))] 0 0 0 [(0, .ref m), (1, .int x)] []
  refine g_aload_n C dX4_bad_0 0 rfl ?_
  refine g_iload_n C dX4_bad_1 1 rfl ?_
  refine gp_X4_47 C 0 rfl (Nat.le_of_ble_eq_true rfl) rfl rfl dX4_bad_2 ?_
  change G E g [(m, .inr (6, [u0, .ref ib, .int sz, .int pl, u4, u5, u6, u7, u8, u9, u10, u11, u12, u13, u14, .int x]))] _ _ _ _ _
  refine g_iconst C dX4_bad_5 (by decide) (fun x5 e5 => ?_)
  exact g_iret C F dX4_bad_6 rfl (nz_b x5 (by omega)) (Nat.le_refl _) (Nat.le_refl _) (by exact ⟨_, rfl, by omega, rfl⟩)
set_option maxHeartbeats 1000000 in
set_option maxRecDepth 10000 in
theorem c_X4_number (l : Launch) (E : GE) (m ib : Nat) (f : Nat → Int32) (sz pl wr : Int32) (u0 u4 u5 u6 u7 u8 u9 u10 u11 u12 u13 u14 : Value) (S P : Nat) (x y : Int32) (fr dg : Nat) (hS : sz.toInt = (S : Int)) (hP : pl.toInt = (P : Int)) (hPS : P ≤ S) (hSm : S ≤ 1500) (hx : x.toInt = (fr : Int)) (hy : y.toInt = (dg : Int)) (hd : dg ≤ 5) (hl : fr + dg ≤ S - P) : Ctr l E yX4_number cX4_number 5 (some .int) 1 (0) (0) [.ref m, .int x, .int y] [(m, .inr (6, [u0, .ref ib, .int sz, .int pl, u4, u5, u6, u7, u8, u9, u10, u11, u12, u13, u14, .int wr])), (ib, aB E (1500) (f))] (oI (fun r => r.toInt = numI (lk f P) fr dg) [(m, .inr (6, [u0, .ref ib, .int sz, .int pl, u4, u5, u6, u7, u8, u9, u10, u11, u12, u13, u14, .int wr])), (ib, aB E (1500) (f))]) := by
  refine Ctr.intro (by decide) (Nat.le_of_ble_eq_true rfl) (fun g hgl hN C r F hi => ?_)
  subst hgl
  have hb8 := lk_lt f P
  change G E g [(m, .inr (6, [u0, .ref ib, .int sz, .int pl, u4, u5, u6, u7, u8, u9, u10, u11, u12, u13, u14, .int wr])), (ib, aB E (1500) (f))] 0 0 0 [(0, .ref m), (1, .int x), (2, .int y)] []
  refine g_iconst C dX4_number_0 (by decide) (fun x0 e0 => ?_)
  refine g_istore_n C dX4_number_1 (by rw [hN]; decide) (lv' := [(3, .int x0), (0, .ref m), (1, .int x), (2, .int y)]) rfl ?_
  refine g_iload_n C dX4_number_2 2 rfl ?_
  refine g_istore C dX4_number_3 (by rw [hN]; decide) (lv' := [(4, .int x), (3, .int x0), (0, .ref m), (1, .int x), (2, .int y)]) rfl ?_
  have loop5 : ∀ (nn : Nat) (n4 : Int32) (n3 : Int32) (k : Nat) (hm : dg - k < nn) (hk : k ≤ dg) (hp : n4.toInt = ((fr + k : Nat) : Int)) (hn : n3.toInt = numI (lk f P) fr k), G E g [(m, .inr (6, [u0, .ref ib, .int sz, .int pl, u4, u5, u6, u7, u8, u9, u10, u11, u12, u13, u14, .int wr])), (ib, aB E (1500) (f))] 0 0 5 [(0, .ref m), (1, .int x), (2, .int y), (3, .int n3), (4, .int n4)] [] := by
    intro nn
    induction nn with
    | zero => intro n4 n3 k hm hk hp hn; omega
    | succ nn ih5 =>
      intro n4 n3 k hm hk hp hn
      have hb := numI_bd hb8 fr k (by omega)
      refine g_iload C dX4_number_5 4 rfl ?_
      refine g_iload_n C dX4_number_7 1 rfl ?_
      refine g_iload_n C dX4_number_8 2 rfl ?_
      refine g_iadd C dX4_number_9 (by omega) (fun x9 e9 => ?_)
      refine g_icmp_ge C 34 dX4_number_10 (by decide) (fun c10 => ?_) (fun c10 => ?_)
      · refine g_iload_n C dX4_number_34 3 rfl ?_
        exact g_iret C F dX4_number_35 rfl rfl (Nat.le_refl _) (Nat.le_refl _) (by refine ⟨_, rfl, ?_, rfl⟩; show n3.toInt = _; rw [hn, show k = dg by omega])
      · refine g_bipush C dX4_number_13 (by decide) (fun x13 e13 => ?_)
        refine g_iload_n C dX4_number_15 3 rfl ?_
        refine g_imul C dX4_number_16 (10 * n3.toInt) (by rw [e13]) (by omega) (fun x16 e16 => ?_)
        refine g_aload_n C dX4_number_17 0 rfl ?_
        refine g_iload C dX4_number_18 4 rfl ?_
        refine g_callV C r mv_X4_50 dX4_number_20 (c_X4_look g.l E m ib f sz pl wr u0 u4 u5 u6 u7 u8 u9 u10 u11 u12 u13 u14 S P n4 (fr + k) hS hP hPS hSm (by omega) (by omega)) (wr := []) (As := [.int n4]) (rest := [.int x16]) (Spl.at [] [0, 1] rfl rfl rfl) 0 rfl rfl rfl rfl (Nat.le_of_ble_eq_true rfl) (by decide) (Nat.le_refl _) (Nat.le_refl _) (fun v w h => ?_)
        obtain ⟨x20, rfl, e20, rfl⟩ := h
        change G E g [(m, .inr (6, [u0, .ref ib, .int sz, .int pl, u4, u5, u6, u7, u8, u9, u10, u11, u12, u13, u14, .int wr])), (ib, aB E (1500) (f))] _ _ _ _ [.int x20, .int x16]
        have hbx20 := hb8 (fr + k)
        refine g_iadd C dX4_number_23 (by omega) (fun x23 e23 => ?_)
        refine g_bipush C dX4_number_24 (by decide) (fun x24 e24 => ?_)
        refine g_isub C dX4_number_26 (by omega) (fun x26 e26 => ?_)
        refine g_istore_n C dX4_number_27 (by rw [hN]; decide) (lv' := [(3, .int x26), (0, .ref m), (1, .int x), (2, .int y), (4, .int n4)]) rfl ?_
        refine g_iinc C dX4_number_28 4 rfl (by rw [hN]; decide) (by decide) (by omega) (fun x28 e28 => ?_)
        refine g_lvE (lv' := [(4, .int x28), (3, .int x26), (0, .ref m), (1, .int x), (2, .int y)]) rfl ?_
        refine g_goto C 5 dX4_number_31 (by decide) ?_
        refine g_lv [2, 3, 4, 1, 0] (lv' := [(0, .ref m), (1, .int x), (2, .int y), (3, .int x26), (4, .int x28)]) rfl ?_
        exact ih5 (x28) (x26) (k + 1) (by omega) (by omega) (by omega) (by rw [show numI (lk f P) fr (k + 1) = numI (lk f P) fr k * 10 + (lk f P (fr + k) : Int) - 48 from rfl]; omega)
  refine g_lv [2, 3, 4, 1, 0] (lv' := [(0, .ref m), (1, .int x), (2, .int y), (3, .int x0), (4, .int x)]) rfl ?_
  exact loop5 _ (x) (x0) (0) (Nat.lt_succ_self _) (by omega) (by omega) (by show _ = (0 : Int); omega)
set_option maxHeartbeats 1000000 in
set_option maxRecDepth 10000 in
theorem c_X4_digits (l : Launch) (E : GE) (m ib : Nat) (f : Nat → Int32) (sz pl wr : Int32) (u0 u4 u5 u6 u7 u8 u9 u10 u11 u12 u13 u14 : Value) (S P : Nat) (x y : Int32) (fr dg : Nat) (hS : sz.toInt = (S : Int)) (hP : pl.toInt = (P : Int)) (hPS : P ≤ S) (hSm : S ≤ 1500) (hx : x.toInt = (fr : Int)) (hy : y.toInt = (dg : Int)) (hl : fr + dg ≤ S - P) : Ctr l E yX4_digits cX4_digits 4 (some .boolean) 1 (0) (0) [.ref m, .int x, .int y] [(m, .inr (6, [u0, .ref ib, .int sz, .int pl, u4, u5, u6, u7, u8, u9, u10, u11, u12, u13, u14, .int wr])), (ib, aB E (1500) (f))] (fun v w => ∃ (r wr2 : Int32), v = some (.int r) ∧ ((r.toInt = 1 ∧ nD (lk f P) fr dg = -1 ∧ wr2 = wr) ∨ (r.toInt = 0 ∧ nD (lk f P) fr dg ≠ -1 ∧ wr2.toInt = nD (lk f P) fr dg)) ∧ w = [(m, .inr (6, [u0, .ref ib, .int sz, .int pl, u4, u5, u6, u7, u8, u9, u10, u11, u12, u13, u14, .int wr2])), (ib, aB E (1500) (f))]) := by
  refine Ctr.intro (by decide) (Nat.le_of_ble_eq_true rfl) (fun g hgl hN C r F hi => ?_)
  subst hgl
  have hb8 := lk_lt f P
  change G E g [(m, .inr (6, [u0, .ref ib, .int sz, .int pl, u4, u5, u6, u7, u8, u9, u10, u11, u12, u13, u14, .int wr])), (ib, aB E (1500) (f))] 0 0 0 [(0, .ref m), (1, .int x), (2, .int y)] []
  refine g_iload_n C dX4_digits_0 1 rfl ?_
  refine g_istore_n C dX4_digits_1 (by rw [hN]; decide) (lv' := [(3, .int x), (0, .ref m), (1, .int x), (2, .int y)]) rfl ?_
  have loop2 : ∀ (nn : Nat) (n3 : Int32) (k : Nat) (hm : dg - k < nn) (hk : k ≤ dg) (hp : n3.toInt = ((fr + k : Nat) : Int)) (hn : nD (lk f P) fr dg = nD (lk f P) (fr + k) (dg - k)), G E g [(m, .inr (6, [u0, .ref ib, .int sz, .int pl, u4, u5, u6, u7, u8, u9, u10, u11, u12, u13, u14, .int wr])), (ib, aB E (1500) (f))] 0 0 2 [(0, .ref m), (1, .int x), (2, .int y), (3, .int n3)] [] := by
    intro nn
    induction nn with
    | zero => intro n3 k hm hk hp hn; omega
    | succ nn ih2 =>
      intro n3 k hm hk hp hn
      refine g_iload_n C dX4_digits_2 3 rfl ?_
      refine g_iload_n C dX4_digits_3 1 rfl ?_
      refine g_iload_n C dX4_digits_4 2 rfl ?_
      refine g_iadd C dX4_digits_5 (by omega) (fun x5 e5 => ?_)
      refine g_icmp_ge C 41 dX4_digits_6 (by decide) (fun c6 => ?_) (fun c6 => ?_)
      · refine g_iconst C dX4_digits_41 (by decide) (fun x41 e41 => ?_)
        exact g_iret C F dX4_digits_42 rfl (nz_b x41 (by omega)) (Nat.le_refl _) (Nat.le_refl _) (by have h9 := nD_zero (b := lk f P) (fr := fr + k) (n := dg - k) (by omega); exact ⟨_, _, rfl, Or.inl ⟨by omega, by omega, rfl⟩, rfl⟩)
      · refine g_aload_n C dX4_digits_9 0 rfl ?_
        refine g_iload_n C dX4_digits_10 3 rfl ?_
        refine g_callV C r mv_X4_50 dX4_digits_11 (c_X4_look g.l E m ib f sz pl wr u0 u4 u5 u6 u7 u8 u9 u10 u11 u12 u13 u14 S P n3 (fr + k) hS hP hPS hSm (by omega) (by omega)) (wr := []) (As := [.int n3]) (rest := []) (Spl.at [] [0, 1] rfl rfl rfl) 0 rfl rfl rfl rfl (Nat.le_of_ble_eq_true rfl) (by decide) (Nat.le_refl _) (Nat.le_refl _) (fun v w h => ?_)
        obtain ⟨x11, rfl, e11, rfl⟩ := h
        change G E g [(m, .inr (6, [u0, .ref ib, .int sz, .int pl, u4, u5, u6, u7, u8, u9, u10, u11, u12, u13, u14, .int wr])), (ib, aB E (1500) (f))] _ _ _ _ [.int x11]
        have hbx11 := hb8 (fr + k)
        refine g_bipush C dX4_digits_14 (by decide) (fun x14 e14 => ?_)
        refine g_icmp_lt C 29 dX4_digits_16 (by decide) (fun c16 => ?_) (fun c16 => ?_)
        · refine g_aload_n C dX4_digits_29 0 rfl ?_
          refine g_iload_n C dX4_digits_30 3 rfl ?_
          refine g_callV C r mv_X4_54 dX4_digits_31 (c_X4_bad g.l E m ib sz pl wr u0 u4 u5 u6 u7 u8 u9 u10 u11 u12 u13 u14 n3) (wr := [(ib, aB E (1500) (f))]) (As := [.int n3]) (rest := []) (Spl.at [1] [0] rfl rfl rfl) 0 rfl rfl rfl rfl (Nat.le_of_ble_eq_true rfl) (by decide) (Nat.le_refl _) (Nat.le_refl _) (fun v w h => ?_)
          obtain ⟨x31, rfl, e31, rfl⟩ := h
          change G E g [(ib, aB E (1500) (f)), (m, .inr (6, [u0, .ref ib, .int sz, .int pl, u4, u5, u6, u7, u8, u9, u10, u11, u12, u13, u14, .int n3]))] _ _ _ _ [.int x31]
          refine g_perm [1, 0] rfl (ws' := [(m, .inr (6, [u0, .ref ib, .int sz, .int pl, u4, u5, u6, u7, u8, u9, u10, u11, u12, u13, u14, .int n3])), (ib, aB E (1500) (f))]) rfl ?_
          exact g_iret C F dX4_digits_34 rfl (nz_b x31 (by omega)) (Nat.le_refl _) (Nat.le_refl _) (by have h9 := nD_hit (b := lk f P) (fr := fr + k) (n := dg - k) (by omega) (by omega); exact ⟨_, _, rfl, Or.inr ⟨by omega, by omega, by omega⟩, rfl⟩)
        · refine g_aload_n C dX4_digits_19 0 rfl ?_
          refine g_iload_n C dX4_digits_20 3 rfl ?_
          refine g_callV C r mv_X4_50 dX4_digits_21 (c_X4_look g.l E m ib f sz pl wr u0 u4 u5 u6 u7 u8 u9 u10 u11 u12 u13 u14 S P n3 (fr + k) hS hP hPS hSm (by omega) (by omega)) (wr := []) (As := [.int n3]) (rest := []) (Spl.at [] [0, 1] rfl rfl rfl) 0 rfl rfl rfl rfl (Nat.le_of_ble_eq_true rfl) (by decide) (Nat.le_refl _) (Nat.le_refl _) (fun v w h => ?_)
          obtain ⟨x21, rfl, e21, rfl⟩ := h
          change G E g [(m, .inr (6, [u0, .ref ib, .int sz, .int pl, u4, u5, u6, u7, u8, u9, u10, u11, u12, u13, u14, .int wr])), (ib, aB E (1500) (f))] _ _ _ _ [.int x21]
          have hbx21 := hb8 (fr + k)
          refine g_bipush C dX4_digits_24 (by decide) (fun x24 e24 => ?_)
          refine g_icmp_le C 35 dX4_digits_26 (by decide) (fun c26 => ?_) (fun c26 => ?_)
          · refine g_iinc C dX4_digits_35 3 rfl (by rw [hN]; decide) (by decide) (by omega) (fun x35 e35 => ?_)
            refine g_lvE (lv' := [(3, .int x35), (0, .ref m), (1, .int x), (2, .int y)]) rfl ?_
            refine g_goto C 2 dX4_digits_38 (by decide) ?_
            refine g_lv [1, 2, 3, 0] (lv' := [(0, .ref m), (1, .int x), (2, .int y), (3, .int x35)]) rfl ?_
            exact ih2 (x35) (k + 1) (by omega) (by omega) (by omega) (by rw [hn, nD_miss (by omega) (by omega), show dg - k - 1 = dg - (k + 1) by omega]; rfl)
          · refine g_aload_n C dX4_digits_29 0 rfl ?_
            refine g_iload_n C dX4_digits_30 3 rfl ?_
            refine g_callV C r mv_X4_54 dX4_digits_31 (c_X4_bad g.l E m ib sz pl wr u0 u4 u5 u6 u7 u8 u9 u10 u11 u12 u13 u14 n3) (wr := [(ib, aB E (1500) (f))]) (As := [.int n3]) (rest := []) (Spl.at [1] [0] rfl rfl rfl) 0 rfl rfl rfl rfl (Nat.le_of_ble_eq_true rfl) (by decide) (Nat.le_refl _) (Nat.le_refl _) (fun v w h => ?_)
            obtain ⟨x31, rfl, e31, rfl⟩ := h
            change G E g [(ib, aB E (1500) (f)), (m, .inr (6, [u0, .ref ib, .int sz, .int pl, u4, u5, u6, u7, u8, u9, u10, u11, u12, u13, u14, .int n3]))] _ _ _ _ [.int x31]
            refine g_perm [1, 0] rfl (ws' := [(m, .inr (6, [u0, .ref ib, .int sz, .int pl, u4, u5, u6, u7, u8, u9, u10, u11, u12, u13, u14, .int n3])), (ib, aB E (1500) (f))]) rfl ?_
            exact g_iret C F dX4_digits_34 rfl (nz_b x31 (by omega)) (Nat.le_refl _) (Nat.le_refl _) (by have h9 := nD_hit (b := lk f P) (fr := fr + k) (n := dg - k) (by omega) (by omega); exact ⟨_, _, rfl, Or.inr ⟨by omega, by omega, by omega⟩, rfl⟩)
  refine g_lv [1, 2, 3, 0] (lv' := [(0, .ref m), (1, .int x), (2, .int y), (3, .int x)]) rfl ?_
  exact loop2 _ (x) (0) (Nat.lt_succ_self _) (by omega) (by omega) (by rfl)
set_option maxHeartbeats 1000000 in
set_option maxRecDepth 10000 in
theorem c_X4_must (l : Launch) (E : GE) (m ib : Nat) (f : Nat → Int32) (sz pl wr : Int32) (u0 u4 u5 u6 u7 u8 u9 u10 u11 u12 u13 u14 : Value) (S P : Nat) (x y : Int32) (k : Nat) (hS : sz.toInt = (S : Int)) (hP : pl.toInt = (P : Int)) (hPS : P ≤ S) (hSm : S ≤ 1500) (hx : x.toInt = (k : Int)) (hl : k < S - P) : Ctr l E yX4_must cX4_must 3 (some .boolean) 1 (0) (0) [.ref m, .int x, .int y] [(m, .inr (6, [u0, .ref ib, .int sz, .int pl, u4, u5, u6, u7, u8, u9, u10, u11, u12, u13, u14, .int wr])), (ib, aB E (1500) (f))] (fun v w => ∃ (r wr2 : Int32), v = some (.int r) ∧ ((r.toInt = 1 ∧ (lk f P k : Int) = y.toInt ∧ wr2 = wr) ∨ (r.toInt = 0 ∧ (lk f P k : Int) ≠ y.toInt ∧ wr2.toInt = (k : Int))) ∧ w = [(m, .inr (6, [u0, .ref ib, .int sz, .int pl, u4, u5, u6, u7, u8, u9, u10, u11, u12, u13, u14, .int wr2])), (ib, aB E (1500) (f))]) := by
  refine Ctr.intro (by decide) (Nat.le_of_ble_eq_true rfl) (fun g hgl hN C r F hi => ?_)
  subst hgl
  have hb8 := lk_lt f P
  change G E g [(m, .inr (6, [u0, .ref ib, .int sz, .int pl, u4, u5, u6, u7, u8, u9, u10, u11, u12, u13, u14, .int wr])), (ib, aB E (1500) (f))] 0 0 0 [(0, .ref m), (1, .int x), (2, .int y)] []
  refine g_aload_n C dX4_must_0 0 rfl ?_
  refine g_iload_n C dX4_must_1 1 rfl ?_
  refine g_callV C r mv_X4_50 dX4_must_2 (c_X4_look g.l E m ib f sz pl wr u0 u4 u5 u6 u7 u8 u9 u10 u11 u12 u13 u14 S P x (k) hS hP hPS hSm (by omega) (by omega)) (wr := []) (As := [.int x]) (rest := []) (Spl.at [] [0, 1] rfl rfl rfl) 0 rfl rfl rfl rfl (Nat.le_of_ble_eq_true rfl) (by decide) (Nat.le_refl _) (Nat.le_refl _) (fun v w h => ?_)
  obtain ⟨x2, rfl, e2, rfl⟩ := h
  change G E g [(m, .inr (6, [u0, .ref ib, .int sz, .int pl, u4, u5, u6, u7, u8, u9, u10, u11, u12, u13, u14, .int wr])), (ib, aB E (1500) (f))] _ _ _ _ [.int x2]
  have hbx2 := hb8 (k)
  refine g_iload_n C dX4_must_5 2 rfl ?_
  refine g_icmp_eq C 17 dX4_must_6 (by decide) (fun c6 => ?_) (fun c6 => ?_)
  · refine g_iconst C dX4_must_17 (by decide) (fun x17 e17 => ?_)
    refine g_goto C 22 dX4_must_18 (by decide) ?_
    exact g_iret C F dX4_must_22 rfl (nz_b x17 (by omega)) (Nat.le_refl _) (Nat.le_refl _) (by first | exact ⟨_, _, rfl, Or.inl ⟨by omega, by omega, rfl⟩, rfl⟩ | exact ⟨_, _, rfl, Or.inr ⟨by omega, by omega, by omega⟩, rfl⟩)
  · refine g_aload_n C dX4_must_9 0 rfl ?_
    refine g_iload_n C dX4_must_10 1 rfl ?_
    refine g_callV C r mv_X4_54 dX4_must_11 (c_X4_bad g.l E m ib sz pl wr u0 u4 u5 u6 u7 u8 u9 u10 u11 u12 u13 u14 x) (wr := [(ib, aB E (1500) (f))]) (As := [.int x]) (rest := []) (Spl.at [1] [0] rfl rfl rfl) 0 rfl rfl rfl rfl (Nat.le_of_ble_eq_true rfl) (by decide) (Nat.le_refl _) (Nat.le_refl _) (fun v w h => ?_)
    obtain ⟨x11, rfl, e11, rfl⟩ := h
    change G E g [(ib, aB E (1500) (f)), (m, .inr (6, [u0, .ref ib, .int sz, .int pl, u4, u5, u6, u7, u8, u9, u10, u11, u12, u13, u14, .int x]))] _ _ _ _ [.int x11]
    refine g_if_eq C 21 dX4_must_14 (by decide) (fun c14 => ?_) (fun c14 => ?_)
    · refine g_iconst C dX4_must_21 (by decide) (fun x21 e21 => ?_)
      refine g_perm [1, 0] rfl (ws' := [(m, .inr (6, [u0, .ref ib, .int sz, .int pl, u4, u5, u6, u7, u8, u9, u10, u11, u12, u13, u14, .int x])), (ib, aB E (1500) (f))]) rfl ?_
      exact g_iret C F dX4_must_22 rfl (nz_b x21 (by omega)) (Nat.le_refl _) (Nat.le_refl _) (by first | exact ⟨_, _, rfl, Or.inl ⟨by omega, by omega, rfl⟩, rfl⟩ | exact ⟨_, _, rfl, Or.inr ⟨by omega, by omega, by omega⟩, rfl⟩)
    · exfalso; omega
set_option maxHeartbeats 1000000 in
set_option maxRecDepth 10000 in
theorem c_X4_control (l : Launch) (E : GE) (m ib : Nat) (f : Nat → Int32) (sz pl wr : Int32) (u0 u4 u5 u6 u7 u8 u9 u10 u11 u12 u13 u14 : Value) (S P : Nat) (x y : Int32) (fr n la : Nat) (hS : sz.toInt = (S : Int)) (hP : pl.toInt = (P : Int)) (hPS : P ≤ S) (hSm : S ≤ 1500) (hx : x.toInt = (fr : Int)) (hy : y.toInt = (n : Int)) (hn1 : 1 ≤ n) (hla : la = fr + n - 1) (hl : la < S - P) : Ctr l E yX4_control cX4_control 4 (some .boolean) 2 (0) (0) [.ref m, .int x, .int y] [(m, .inr (6, [u0, .ref ib, .int sz, .int pl, u4, u5, u6, u7, u8, u9, u10, u11, u12, u13, u14, .int wr])), (ib, aB E (1500) (f))] (fun v w => ∃ (r wr2 : Int32), v = some (.int r) ∧ ((r.toInt = 1 ∧ wCtl (lk f P) fr la = -1 ∧ wr2 = wr) ∨ (r.toInt = 0 ∧ wCtl (lk f P) fr la ≠ -1 ∧ wr2.toInt = wCtl (lk f P) fr la)) ∧ w = [(m, .inr (6, [u0, .ref ib, .int sz, .int pl, u4, u5, u6, u7, u8, u9, u10, u11, u12, u13, u14, .int wr2])), (ib, aB E (1500) (f))]) := by
  refine Ctr.intro (by decide) (Nat.le_of_ble_eq_true rfl) (fun g hgl hN C r F hi => ?_)
  subst hgl
  have hb8 := lk_lt f P
  change G E g [(m, .inr (6, [u0, .ref ib, .int sz, .int pl, u4, u5, u6, u7, u8, u9, u10, u11, u12, u13, u14, .int wr])), (ib, aB E (1500) (f))] 0 0 0 [(0, .ref m), (1, .int x), (2, .int y)] []
  refine g_iload_n C dX4_control_0 1 rfl ?_
  refine g_istore_n C dX4_control_1 (by rw [hN]; decide) (lv' := [(3, .int x), (0, .ref m), (1, .int x), (2, .int y)]) rfl ?_
  have loop2 : ∀ (nn : Nat) (n3 : Int32) (k : Nat) (hm : la - k < nn) (hk : fr ≤ k ∧ k ≤ la) (hp : n3.toInt = (k : Int)) (hn : nM (lk f P) fr (la - fr) = nM (lk f P) k (la - k)), G E g [(m, .inr (6, [u0, .ref ib, .int sz, .int pl, u4, u5, u6, u7, u8, u9, u10, u11, u12, u13, u14, .int wr])), (ib, aB E (1500) (f))] 0 0 2 [(0, .ref m), (1, .int x), (2, .int y), (3, .int n3)] [] := by
    intro nn
    induction nn with
    | zero => intro n3 k hm hk hp hn; omega
    | succ nn ih2 =>
      intro n3 k hm hk hp hn
      refine g_iload_n C dX4_control_2 3 rfl ?_
      refine g_iload_n C dX4_control_3 1 rfl ?_
      refine g_iload_n C dX4_control_4 2 rfl ?_
      refine g_iadd C dX4_control_5 (by omega) (fun x5 e5 => ?_)
      refine g_iconst C dX4_control_6 (by decide) (fun x6 e6 => ?_)
      refine g_isub C dX4_control_7 (by omega) (fun x7 e7 => ?_)
      refine g_icmp_ge C 34 dX4_control_8 (by decide) (fun c8 => ?_) (fun c8 => ?_)
      · refine g_aload_n C dX4_control_34 0 rfl ?_
        refine g_iload_n C dX4_control_35 1 rfl ?_
        refine g_iload_n C dX4_control_36 2 rfl ?_
        refine g_iadd C dX4_control_37 (by omega) (fun x37 e37 => ?_)
        refine g_iconst C dX4_control_38 (by decide) (fun x38 e38 => ?_)
        refine g_isub C dX4_control_39 (by omega) (fun x39 e39 => ?_)
        refine g_bipush C dX4_control_40 (by decide) (fun x40 e40 => ?_)
        refine g_callV C r mv_X4_61 dX4_control_42 (c_X4_must g.l E m ib f sz pl wr u0 u4 u5 u6 u7 u8 u9 u10 u11 u12 u13 u14 S P x39 x40 (la) hS hP hPS hSm (by omega) (by omega)) (wr := []) (As := [.int x39, .int x40]) (rest := []) (Spl.at [] [0, 1] rfl rfl rfl) 0 rfl rfl rfl rfl (Nat.le_of_ble_eq_true rfl) (by decide) (Nat.le_refl _) (Nat.le_refl _) (fun v w h => ?_)
        obtain ⟨x42, w42, rfl, e42, rfl⟩ := h
        change G E g [(m, .inr (6, [u0, .ref ib, .int sz, .int pl, u4, u5, u6, u7, u8, u9, u10, u11, u12, u13, u14, .int w42])), (ib, aB E (1500) (f))] _ _ _ _ [.int x42]
        exact g_iret C F dX4_control_45 rfl (nz_b x42 (by omega)) (Nat.le_refl _) (Nat.le_refl _) (by have h9 := nM_zero (b := lk f P) (fr := k) (n := la - k) (by omega); have h8 := wCtl_2 (b := lk f P) (fr := fr) (la := la) (by omega); have h7 := wEnd_d (lk f P) la; rcases e42 with ⟨a1, a2, a3⟩ | ⟨a1, a2, a3⟩; exact ⟨_, _, rfl, Or.inl ⟨by omega, by omega, a3⟩, rfl⟩; exact ⟨_, _, rfl, Or.inr ⟨by omega, by omega, by omega⟩, rfl⟩)
      · refine g_aload_n C dX4_control_11 0 rfl ?_
        refine g_iload_n C dX4_control_12 3 rfl ?_
        refine g_callV C r mv_X4_50 dX4_control_13 (c_X4_look g.l E m ib f sz pl wr u0 u4 u5 u6 u7 u8 u9 u10 u11 u12 u13 u14 S P n3 (k) hS hP hPS hSm (by omega) (by omega)) (wr := []) (As := [.int n3]) (rest := []) (Spl.at [] [0, 1] rfl rfl rfl) 0 rfl rfl rfl rfl (Nat.le_of_ble_eq_true rfl) (by decide) (Nat.le_refl _) (Nat.le_refl _) (fun v w h => ?_)
        obtain ⟨x13, rfl, e13, rfl⟩ := h
        change G E g [(m, .inr (6, [u0, .ref ib, .int sz, .int pl, u4, u5, u6, u7, u8, u9, u10, u11, u12, u13, u14, .int wr])), (ib, aB E (1500) (f))] _ _ _ _ [.int x13]
        have hbx13 := hb8 (k)
        refine g_callS C r ms_X4_58 dX4_control_16 (c_X4_isMark g.l E x13) (wr := [(m, .inr (6, [u0, .ref ib, .int sz, .int pl, u4, u5, u6, u7, u8, u9, u10, u11, u12, u13, u14, .int wr])), (ib, aB E (1500) (f))]) (As := [.int x13]) (rest := []) (Spl.at [0, 1] [] rfl rfl rfl) rfl (Nat.le_of_ble_eq_true rfl) (by decide) (Nat.le_refl _) (Nat.le_refl _) (fun v w h => ?_)
        obtain ⟨x16, rfl, e16, rfl⟩ := h
        change G E g [(m, .inr (6, [u0, .ref ib, .int sz, .int pl, u4, u5, u6, u7, u8, u9, u10, u11, u12, u13, u14, .int wr])), (ib, aB E (1500) (f))] _ _ _ _ [.int x16]
        refine g_if_eq C 28 dX4_control_19 (by decide) (fun c19 => ?_) (fun c19 => ?_)
        · replace e16 := bl0 e16 c19
          refine g_iinc C dX4_control_28 3 rfl (by rw [hN]; decide) (by decide) (by omega) (fun x28 e28 => ?_)
          refine g_lvE (lv' := [(3, .int x28), (0, .ref m), (1, .int x), (2, .int y)]) rfl ?_
          refine g_goto C 2 dX4_control_31 (by decide) ?_
          refine g_lv [1, 2, 3, 0] (lv' := [(0, .ref m), (1, .int x), (2, .int y), (3, .int x28)]) rfl ?_
          exact ih2 (x28) (k + 1) (by omega) (by omega) (by omega) (by rw [hn, nM_miss (by omega) (by omega), show la - k - 1 = la - (k + 1) by omega])
        · replace e16 := bl1 e16 c19
          refine g_aload_n C dX4_control_22 0 rfl ?_
          refine g_iload_n C dX4_control_23 3 rfl ?_
          refine g_callV C r mv_X4_54 dX4_control_24 (c_X4_bad g.l E m ib sz pl wr u0 u4 u5 u6 u7 u8 u9 u10 u11 u12 u13 u14 n3) (wr := [(ib, aB E (1500) (f))]) (As := [.int n3]) (rest := []) (Spl.at [1] [0] rfl rfl rfl) 0 rfl rfl rfl rfl (Nat.le_of_ble_eq_true rfl) (by decide) (Nat.le_refl _) (Nat.le_refl _) (fun v w h => ?_)
          obtain ⟨x24, rfl, e24, rfl⟩ := h
          change G E g [(ib, aB E (1500) (f)), (m, .inr (6, [u0, .ref ib, .int sz, .int pl, u4, u5, u6, u7, u8, u9, u10, u11, u12, u13, u14, .int n3]))] _ _ _ _ [.int x24]
          refine g_perm [1, 0] rfl (ws' := [(m, .inr (6, [u0, .ref ib, .int sz, .int pl, u4, u5, u6, u7, u8, u9, u10, u11, u12, u13, u14, .int n3])), (ib, aB E (1500) (f))]) rfl ?_
          exact g_iret C F dX4_control_27 rfl (nz_b x24 (by omega)) (Nat.le_refl _) (Nat.le_refl _) (by have h9 := nM_hit (b := lk f P) (fr := k) (n := la - k) (by omega) (by omega); have h8 := wCtl_1 (b := lk f P) (fr := fr) (la := la) (by omega); exact ⟨_, _, rfl, Or.inr ⟨by omega, by omega, by omega⟩, rfl⟩)
  refine g_lv [1, 2, 3, 0] (lv' := [(0, .ref m), (1, .int x), (2, .int y), (3, .int x)]) rfl ?_
  exact loop2 _ (x) (fr) (Nat.lt_succ_self _) (by omega) (by omega) (by rfl)
