set_option maxHeartbeats 2000000 in
set_option maxRecDepth 10000 in
theorem c_X4_heads (l : Launch) (E : GE) (m ib : Nat) (f : Nat → Int32) (sz pl wr : Int32) (u0 u4 u5 u6 u7 u8 u9 u10 u11 u12 u13 u14 : Value) (S P : Nat) (x y : Int32) (all : Nat) (B : Int) (hS : sz.toInt = (S : Int)) (hP : pl.toInt = (P : Int)) (hPS : P ≤ S) (hSm : S ≤ 1500) (hx : x.toInt = (all : Int)) (hy : y.toInt = B) (hB : 0 ≤ B ∧ B ≤ 99999) (hal : all ≤ S - P) (h26 : 26 ≤ all) : Ctr l E yX4_heads cX4_heads 3 (some .boolean) 2 (0) (0) [.ref m, .int x, .int y] [(m, .inr (6, [u0, .ref ib, .int sz, .int pl, u4, u5, u6, u7, u8, u9, u10, u11, u12, u13, u14, .int wr])), (ib, aB E (1500) (f))] (fun v w => ∃ (r wr2 : Int32), v = some (.int r) ∧ ((r.toInt = 1 ∧ wHd (lk f P) all B = -1 ∧ wr2 = wr) ∨ (r.toInt = 0 ∧ wHd (lk f P) all B ≠ -1 ∧ wr2.toInt = wHd (lk f P) all B)) ∧ w = [(m, .inr (6, [u0, .ref ib, .int sz, .int pl, u4, u5, u6, u7, u8, u9, u10, u11, u12, u13, u14, .int wr2])), (ib, aB E (1500) (f))]) := by
  refine Ctr.intro (by decide) (Nat.le_of_ble_eq_true rfl) (fun g hgl hN C r F hi => ?_)
  subst hgl
  have hb8 := lk_lt f P
  change G E g [(m, .inr (6, [u0, .ref ib, .int sz, .int pl, u4, u5, u6, u7, u8, u9, u10, u11, u12, u13, u14, .int wr])), (ib, aB E (1500) (f))] 0 0 0 [(0, .ref m), (1, .int x), (2, .int y)] []
  have J23 : ∀ (_ : True) (hbad : ¬ (25 ≤ B ∧ B ≤ (all : Int) - 1 ∧ (B - 25) % 12 = 0)), G E g [(m, .inr (6, [u0, .ref ib, .int sz, .int pl, u4, u5, u6, u7, u8, u9, u10, u11, u12, u13, u14, .int wr])), (ib, aB E (1500) (f))] 0 0 23 [(0, .ref m), (1, .int x), (2, .int y)] [] := by
    intro _ hbad
    refine g_aload_n C dX4_heads_23 0 rfl ?_
    refine g_bipush C dX4_heads_24 (by decide) (fun x24 e24 => ?_)
    refine g_callV C r mv_X4_54 dX4_heads_26 (c_X4_bad g.l E m ib sz pl wr u0 u4 u5 u6 u7 u8 u9 u10 u11 u12 u13 u14 x24) (wr := [(ib, aB E (1500) (f))]) (As := [.int x24]) (rest := []) (Spl.at [1] [0] rfl rfl rfl) 0 rfl rfl rfl rfl (Nat.le_of_ble_eq_true rfl) (by decide) (Nat.le_refl _) (Nat.le_refl _) (fun v w h => ?_)
    obtain ⟨x26, rfl, e26, rfl⟩ := h
    change G E g [(ib, aB E (1500) (f)), (m, .inr (6, [u0, .ref ib, .int sz, .int pl, u4, u5, u6, u7, u8, u9, u10, u11, u12, u13, u14, .int x24]))] _ _ _ _ [.int x26]
    refine g_perm [1, 0] rfl (ws' := [(m, .inr (6, [u0, .ref ib, .int sz, .int pl, u4, u5, u6, u7, u8, u9, u10, u11, u12, u13, u14, .int x24])), (ib, aB E (1500) (f))]) rfl ?_
    exact g_iret C F dX4_heads_29 rfl (nz_b x26 (by omega)) (Nat.le_refl _) (Nat.le_refl _) (by have h9 := wHd_1 (b := lk f P) (all := all) (B := B) hbad; exact ⟨_, _, rfl, Or.inr ⟨by omega, by omega, by omega⟩, rfl⟩)
  refine g_iload_n C dX4_heads_0 2 rfl ?_
  refine g_bipush C dX4_heads_1 (by decide) (fun x1 e1 => ?_)
  refine g_icmp_lt C 23 dX4_heads_3 (by decide) (fun c3 => ?_) (fun c3 => ?_)
  · refine g_lv [0, 1, 2] (lv' := [(0, .ref m), (1, .int x), (2, .int y)]) rfl ?_
    exact J23 trivial (by omega)
  · refine g_iload_n C dX4_heads_6 2 rfl ?_
    refine g_iload_n C dX4_heads_7 1 rfl ?_
    refine g_iconst C dX4_heads_8 (by decide) (fun x8 e8 => ?_)
    refine g_isub C dX4_heads_9 (by omega) (fun x9 e9 => ?_)
    refine g_icmp_gt C 23 dX4_heads_10 (by decide) (fun c10 => ?_) (fun c10 => ?_)
    · refine g_lv [0, 1, 2] (lv' := [(0, .ref m), (1, .int x), (2, .int y)]) rfl ?_
      exact J23 trivial (by omega)
    · refine g_iload_n C dX4_heads_13 2 rfl ?_
      refine g_bipush C dX4_heads_14 (by decide) (fun x14 e14 => ?_)
      refine g_isub C dX4_heads_16 (by omega) (fun x16 e16 => ?_)
      refine g_bipush C dX4_heads_17 (by decide) (fun x17 e17 => ?_)
      refine g_irem C dX4_heads_19 (12) (e17) (by omega) (fun x19 e19 => ?_)
      refine g_if_eq C 30 dX4_heads_20 (by decide) (fun c20 => ?_) (fun c20 => ?_)
      · have hg : 25 ≤ B ∧ B ≤ (all : Int) - 1 ∧ (B - 25) % 12 = 0 := by omega
        clear J23
        refine g_aload_n C dX4_heads_30 0 rfl ?_
        refine g_iload_n C dX4_heads_31 2 rfl ?_
        refine g_iconst C dX4_heads_32 (by decide) (fun x32 e32 => ?_)
        refine g_isub C dX4_heads_33 (by omega) (fun x33 e33 => ?_)
        refine g_bipush C dX4_heads_34 (by decide) (fun x34 e34 => ?_)
        refine g_callV C r mv_X4_61 dX4_heads_36 (c_X4_must g.l E m ib f sz pl wr u0 u4 u5 u6 u7 u8 u9 u10 u11 u12 u13 u14 S P x33 x34 (B.toNat - 1) hS hP hPS hSm (by omega) (by omega)) (wr := []) (As := [.int x33, .int x34]) (rest := []) (Spl.at [] [0, 1] rfl rfl rfl) 0 rfl rfl rfl rfl (Nat.le_of_ble_eq_true rfl) (by decide) (Nat.le_refl _) (Nat.le_refl _) (fun v w h => ?_)
        obtain ⟨x36, w36, rfl, e36, rfl⟩ := h
        change G E g [(m, .inr (6, [u0, .ref ib, .int sz, .int pl, u4, u5, u6, u7, u8, u9, u10, u11, u12, u13, u14, .int w36])), (ib, aB E (1500) (f))] _ _ _ _ [.int x36]
        refine g_if_eq C 79 dX4_heads_39 (by decide) (fun c39 => ?_) (fun c39 => ?_)
        · replace e36 := bl0 e36 c39
          refine g_iconst C dX4_heads_79 (by decide) (fun x79 e79 => ?_)
          exact g_iret C F dX4_heads_80 rfl (nz_b x79 (by omega)) (Nat.le_refl _) (Nat.le_refl _) (by have h9 := wHd_2 (b := lk f P) (all := all) (B := B) hg (by omega); exact ⟨_, _, rfl, Or.inr ⟨by omega, by omega, by omega⟩, rfl⟩)
        · replace e36 := bl1 e36 c39
          obtain ⟨e36, rfl⟩ := e36
          refine g_aload_n C dX4_heads_42 0 rfl ?_
          refine g_iload_n C dX4_heads_43 1 rfl ?_
          refine g_iconst C dX4_heads_44 (by decide) (fun x44 e44 => ?_)
          refine g_isub C dX4_heads_45 (by omega) (fun x45 e45 => ?_)
          refine g_bipush C dX4_heads_46 (by decide) (fun x46 e46 => ?_)
          refine g_callV C r mv_X4_61 dX4_heads_48 (c_X4_must g.l E m ib f sz pl w36 u0 u4 u5 u6 u7 u8 u9 u10 u11 u12 u13 u14 S P x45 x46 (all - 1) hS hP hPS hSm (by omega) (by omega)) (wr := []) (As := [.int x45, .int x46]) (rest := []) (Spl.at [] [0, 1] rfl rfl rfl) 0 rfl rfl rfl rfl (Nat.le_of_ble_eq_true rfl) (by decide) (Nat.le_refl _) (Nat.le_refl _) (fun v w h => ?_)
          obtain ⟨x48, w48, rfl, e48, rfl⟩ := h
          change G E g [(m, .inr (6, [u0, .ref ib, .int sz, .int pl, u4, u5, u6, u7, u8, u9, u10, u11, u12, u13, u14, .int w48])), (ib, aB E (1500) (f))] _ _ _ _ [.int x48]
          refine g_if_eq C 79 dX4_heads_51 (by decide) (fun c51 => ?_) (fun c51 => ?_)
          · replace e48 := bl0 e48 c51
            refine g_iconst C dX4_heads_79 (by decide) (fun x79 e79 => ?_)
            exact g_iret C F dX4_heads_80 rfl (nz_b x79 (by omega)) (Nat.le_refl _) (Nat.le_refl _) (by have h9 := wHd_3 (b := lk f P) (all := all) (B := B) hg (by omega) (by omega); exact ⟨_, _, rfl, Or.inr ⟨by omega, by omega, by omega⟩, rfl⟩)
          · replace e48 := bl1 e48 c51
            obtain ⟨e48, rfl⟩ := e48
            refine g_iload_n C dX4_heads_54 2 rfl ?_
            refine g_bipush C dX4_heads_55 (by decide) (fun x55 e55 => ?_)
            refine g_isub C dX4_heads_57 (by omega) (fun x57 e57 => ?_)
            refine g_bipush C dX4_heads_58 (by decide) (fun x58 e58 => ?_)
            refine g_idiv C dX4_heads_60 (12) (e58) (by omega) (fun x60 e60 => ?_)
            refine g_bipush C dX4_heads_61 (by decide) (fun x61 e61 => ?_)
            refine g_icmp_le C 75 dX4_heads_63 (by decide) (fun c63 => ?_) (fun c63 => ?_)
            · refine g_iconst C dX4_heads_75 (by decide) (fun x75 e75 => ?_)
              refine g_goto C 80 dX4_heads_76 (by decide) ?_
              exact g_iret C F dX4_heads_80 rfl (nz_b x75 (by omega)) (Nat.le_refl _) (Nat.le_refl _) (by have h9 := wHd_5 (b := lk f P) (all := all) (B := B) hg (by omega) (by omega) (by omega); exact ⟨_, _, rfl, Or.inl ⟨by omega, by omega, rfl⟩, rfl⟩)
            · refine g_aload_n C dX4_heads_66 0 rfl ?_
              refine g_bipush C dX4_heads_67 (by decide) (fun x67 e67 => ?_)
              refine g_callV C r mv_X4_54 dX4_heads_69 (c_X4_bad g.l E m ib sz pl w48 u0 u4 u5 u6 u7 u8 u9 u10 u11 u12 u13 u14 x67) (wr := [(ib, aB E (1500) (f))]) (As := [.int x67]) (rest := []) (Spl.at [1] [0] rfl rfl rfl) 0 rfl rfl rfl rfl (Nat.le_of_ble_eq_true rfl) (by decide) (Nat.le_refl _) (Nat.le_refl _) (fun v w h => ?_)
              obtain ⟨x69, rfl, e69, rfl⟩ := h
              change G E g [(ib, aB E (1500) (f)), (m, .inr (6, [u0, .ref ib, .int sz, .int pl, u4, u5, u6, u7, u8, u9, u10, u11, u12, u13, u14, .int x67]))] _ _ _ _ [.int x69]
              refine g_if_eq C 79 dX4_heads_72 (by decide) (fun c72 => ?_) (fun c72 => ?_)
              · refine g_iconst C dX4_heads_79 (by decide) (fun x79 e79 => ?_)
                refine g_perm [1, 0] rfl (ws' := [(m, .inr (6, [u0, .ref ib, .int sz, .int pl, u4, u5, u6, u7, u8, u9, u10, u11, u12, u13, u14, .int x67])), (ib, aB E (1500) (f))]) rfl ?_
                exact g_iret C F dX4_heads_80 rfl (nz_b x79 (by omega)) (Nat.le_refl _) (Nat.le_refl _) (by have h9 := wHd_4 (b := lk f P) (all := all) (B := B) hg (by omega) (by omega) (by omega); exact ⟨_, _, rfl, Or.inr ⟨by omega, by omega, by omega⟩, rfl⟩)
              · exfalso; omega
      · refine g_lv [0, 1, 2] (lv' := [(0, .ref m), (1, .int x), (2, .int y)]) rfl ?_
        exact J23 trivial (by omega)
set_option maxHeartbeats 3000000 in
set_option maxRecDepth 10000 in
theorem c_X4_reads (l : Launch) (E : GE) (m ib nr : Nat) (f nf : Nat → Int32) (sz pl wr : Int32) (u0 u4 u5 u6 u7 u8 u9 u10 u12 u13 u14 : Value) (S P : Nat) (x : Int32) (all : Nat) (hS : sz.toInt = (S : Int)) (hP : pl.toInt = (P : Int)) (hPS : P ≤ S) (hSm : S ≤ 1500) (hx : x.toInt = (all : Int)) (hal : all ≤ S - P) (h26 : 26 ≤ all) : Ctr l E yX4_reads cX4_reads 4 (some .boolean) 4 (0) (0) [.ref m, .int x] [(m, .inr (6, [u0, .ref ib, .int sz, .int pl, u4, u5, u6, u7, u8, u9, u10, .ref nr, u12, u13, u14, .int wr])), (ib, aB E (1500) (f)), (nr, aI E (180) (nf))] (fun v w => ∃ (r wr2 : Int32) (nf2 : Nat → Int32), v = some (.int r) ∧ ((r.toInt = 1 ∧ wRec (lk f P) all = -1 ∧ wr2 = wr ∧ RW (lk f P) nf2 ((numI (lk f P) 12 5 - 25) / 12).toNat) ∨ (r.toInt = 0 ∧ wRec (lk f P) all ≠ -1 ∧ wr2.toInt = wRec (lk f P) all)) ∧ w = [(m, .inr (6, [u0, .ref ib, .int sz, .int pl, u4, u5, u6, u7, u8, u9, u10, .ref nr, u12, u13, u14, .int wr2])), (ib, aB E (1500) (f)), (nr, aI E (180) (nf2))]) := by
  refine Ctr.intro (by decide) (Nat.le_of_ble_eq_true rfl) (fun g hgl hN C r F hi => ?_)
  subst hgl
  have hb8 := lk_lt f P
  change G E g [(m, .inr (6, [u0, .ref ib, .int sz, .int pl, u4, u5, u6, u7, u8, u9, u10, .ref nr, u12, u13, u14, .int wr])), (ib, aB E (1500) (f)), (nr, aI E (180) (nf))] 0 0 0 [(0, .ref m), (1, .int x)] []
  refine g_aload_n C dX4_reads_0 0 rfl ?_
  refine g_bipush C dX4_reads_1 (by decide) (fun x1 e1 => ?_)
  refine g_bipush C dX4_reads_3 (by decide) (fun x3 e3 => ?_)
  refine g_callV C r mv_X4_61 dX4_reads_5 (c_X4_must g.l E m ib f sz pl wr u0 u4 u5 u6 u7 u8 u9 u10 (.ref nr) u12 u13 u14 S P x1 x3 (10) hS hP hPS hSm (by omega) (by omega)) (wr := [(nr, aI E (180) (nf))]) (As := [.int x1, .int x3]) (rest := []) (Spl.at [2] [0, 1] rfl rfl rfl) 0 rfl rfl rfl rfl (Nat.le_of_ble_eq_true rfl) (by decide) (Nat.le_refl _) (Nat.le_refl _) (fun v w h => ?_)
  obtain ⟨x5, w5, rfl, e5, rfl⟩ := h
  change G E g [(nr, aI E (180) (nf)), (m, .inr (6, [u0, .ref ib, .int sz, .int pl, u4, u5, u6, u7, u8, u9, u10, .ref nr, u12, u13, u14, .int w5])), (ib, aB E (1500) (f))] _ _ _ _ [.int x5]
  refine g_if_eq C 54 dX4_reads_8 (by decide) (fun c8 => ?_) (fun c8 => ?_)
  · replace e5 := bl0 e5 c8
    refine g_iconst C dX4_reads_54 (by decide) (fun x54 e54 => ?_)
    refine g_perm [1, 2, 0] rfl (ws' := [(m, .inr (6, [u0, .ref ib, .int sz, .int pl, u4, u5, u6, u7, u8, u9, u10, .ref nr, u12, u13, u14, .int w5])), (ib, aB E (1500) (f)), (nr, aI E (180) (nf))]) rfl ?_
    exact g_iret C F dX4_reads_55 rfl (nz_b x54 (by omega)) (Nat.le_refl _) (Nat.le_refl _) (by have h8 := wFix_a (b := lk f P) (by omega); have h9 := wRec_a (b := lk f P) (all := all) h26 (by omega); exact ⟨_, _, _, rfl, Or.inr ⟨by omega, by omega, by omega⟩, rfl⟩)
  · replace e5 := bl1 e5 c8
    obtain ⟨e5, rfl⟩ := e5
    refine g_aload_n C dX4_reads_11 0 rfl ?_
    refine g_bipush C dX4_reads_12 (by decide) (fun x12 e12 => ?_)
    refine g_bipush C dX4_reads_14 (by decide) (fun x14 e14 => ?_)
    refine g_callV C r mv_X4_61 dX4_reads_16 (c_X4_must g.l E m ib f sz pl w5 u0 u4 u5 u6 u7 u8 u9 u10 (.ref nr) u12 u13 u14 S P x12 x14 (11) hS hP hPS hSm (by omega) (by omega)) (wr := [(nr, aI E (180) (nf))]) (As := [.int x12, .int x14]) (rest := []) (Spl.at [0] [1, 2] rfl rfl rfl) 0 rfl rfl rfl rfl (Nat.le_of_ble_eq_true rfl) (by decide) (Nat.le_refl _) (Nat.le_refl _) (fun v w h => ?_)
    obtain ⟨x16, w16, rfl, e16, rfl⟩ := h
    change G E g [(nr, aI E (180) (nf)), (m, .inr (6, [u0, .ref ib, .int sz, .int pl, u4, u5, u6, u7, u8, u9, u10, .ref nr, u12, u13, u14, .int w16])), (ib, aB E (1500) (f))] _ _ _ _ [.int x16]
    refine g_if_eq C 54 dX4_reads_19 (by decide) (fun c19 => ?_) (fun c19 => ?_)
    · replace e16 := bl0 e16 c19
      refine g_iconst C dX4_reads_54 (by decide) (fun x54 e54 => ?_)
      refine g_perm [1, 2, 0] rfl (ws' := [(m, .inr (6, [u0, .ref ib, .int sz, .int pl, u4, u5, u6, u7, u8, u9, u10, .ref nr, u12, u13, u14, .int w16])), (ib, aB E (1500) (f)), (nr, aI E (180) (nf))]) rfl ?_
      exact g_iret C F dX4_reads_55 rfl (nz_b x54 (by omega)) (Nat.le_refl _) (Nat.le_refl _) (by have h8 := wFix_b (b := lk f P) (by omega) (by omega); have h9 := wRec_a (b := lk f P) (all := all) h26 (by omega); exact ⟨_, _, _, rfl, Or.inr ⟨by omega, by omega, by omega⟩, rfl⟩)
    · replace e16 := bl1 e16 c19
      obtain ⟨e16, rfl⟩ := e16
      refine g_aload_n C dX4_reads_22 0 rfl ?_
      refine g_bipush C dX4_reads_23 (by decide) (fun x23 e23 => ?_)
      refine g_bipush C dX4_reads_25 (by decide) (fun x25 e25 => ?_)
      refine g_callV C r mv_X4_61 dX4_reads_27 (c_X4_must g.l E m ib f sz pl w16 u0 u4 u5 u6 u7 u8 u9 u10 (.ref nr) u12 u13 u14 S P x23 x25 (20) hS hP hPS hSm (by omega) (by omega)) (wr := [(nr, aI E (180) (nf))]) (As := [.int x23, .int x25]) (rest := []) (Spl.at [0] [1, 2] rfl rfl rfl) 0 rfl rfl rfl rfl (Nat.le_of_ble_eq_true rfl) (by decide) (Nat.le_refl _) (Nat.le_refl _) (fun v w h => ?_)
      obtain ⟨x27, w27, rfl, e27, rfl⟩ := h
      change G E g [(nr, aI E (180) (nf)), (m, .inr (6, [u0, .ref ib, .int sz, .int pl, u4, u5, u6, u7, u8, u9, u10, .ref nr, u12, u13, u14, .int w27])), (ib, aB E (1500) (f))] _ _ _ _ [.int x27]
      refine g_if_eq C 54 dX4_reads_30 (by decide) (fun c30 => ?_) (fun c30 => ?_)
      · replace e27 := bl0 e27 c30
        refine g_iconst C dX4_reads_54 (by decide) (fun x54 e54 => ?_)
        refine g_perm [1, 2, 0] rfl (ws' := [(m, .inr (6, [u0, .ref ib, .int sz, .int pl, u4, u5, u6, u7, u8, u9, u10, .ref nr, u12, u13, u14, .int w27])), (ib, aB E (1500) (f)), (nr, aI E (180) (nf))]) rfl ?_
        exact g_iret C F dX4_reads_55 rfl (nz_b x54 (by omega)) (Nat.le_refl _) (Nat.le_refl _) (by have h8 := wFix_c (b := lk f P) (by omega) (by omega) (by omega); have h9 := wRec_a (b := lk f P) (all := all) h26 (by omega); exact ⟨_, _, _, rfl, Or.inr ⟨by omega, by omega, by omega⟩, rfl⟩)
      · replace e27 := bl1 e27 c30
        obtain ⟨e27, rfl⟩ := e27
        refine g_aload_n C dX4_reads_33 0 rfl ?_
        refine g_bipush C dX4_reads_34 (by decide) (fun x34 e34 => ?_)
        refine g_bipush C dX4_reads_36 (by decide) (fun x36 e36 => ?_)
        refine g_callV C r mv_X4_61 dX4_reads_38 (c_X4_must g.l E m ib f sz pl w27 u0 u4 u5 u6 u7 u8 u9 u10 (.ref nr) u12 u13 u14 S P x34 x36 (21) hS hP hPS hSm (by omega) (by omega)) (wr := [(nr, aI E (180) (nf))]) (As := [.int x34, .int x36]) (rest := []) (Spl.at [0] [1, 2] rfl rfl rfl) 0 rfl rfl rfl rfl (Nat.le_of_ble_eq_true rfl) (by decide) (Nat.le_refl _) (Nat.le_refl _) (fun v w h => ?_)
        obtain ⟨x38, w38, rfl, e38, rfl⟩ := h
        change G E g [(nr, aI E (180) (nf)), (m, .inr (6, [u0, .ref ib, .int sz, .int pl, u4, u5, u6, u7, u8, u9, u10, .ref nr, u12, u13, u14, .int w38])), (ib, aB E (1500) (f))] _ _ _ _ [.int x38]
        refine g_if_eq C 54 dX4_reads_41 (by decide) (fun c41 => ?_) (fun c41 => ?_)
        · replace e38 := bl0 e38 c41
          refine g_iconst C dX4_reads_54 (by decide) (fun x54 e54 => ?_)
          refine g_perm [1, 2, 0] rfl (ws' := [(m, .inr (6, [u0, .ref ib, .int sz, .int pl, u4, u5, u6, u7, u8, u9, u10, .ref nr, u12, u13, u14, .int w38])), (ib, aB E (1500) (f)), (nr, aI E (180) (nf))]) rfl ?_
          exact g_iret C F dX4_reads_55 rfl (nz_b x54 (by omega)) (Nat.le_refl _) (Nat.le_refl _) (by have h8 := wFix_d (b := lk f P) (by omega) (by omega) (by omega) (by omega); have h9 := wRec_a (b := lk f P) (all := all) h26 (by omega); exact ⟨_, _, _, rfl, Or.inr ⟨by omega, by omega, by omega⟩, rfl⟩)
        · replace e38 := bl1 e38 c41
          obtain ⟨e38, rfl⟩ := e38
          have hfx := wFix_e (b := lk f P) (by omega) (by omega) (by omega) (by omega)
          refine g_aload_n C dX4_reads_44 0 rfl ?_
          refine g_bipush C dX4_reads_45 (by decide) (fun x45 e45 => ?_)
          refine g_iconst C dX4_reads_47 (by decide) (fun x47 e47 => ?_)
          refine g_callV C r mv_X4_65 dX4_reads_48 (c_X4_digits g.l E m ib f sz pl w38 u0 u4 u5 u6 u7 u8 u9 u10 (.ref nr) u12 u13 u14 S P x45 x47 (12) (5) hS hP hPS hSm (by omega) (by omega) (by omega)) (wr := [(nr, aI E (180) (nf))]) (As := [.int x45, .int x47]) (rest := []) (Spl.at [0] [1, 2] rfl rfl rfl) 0 rfl rfl rfl rfl (Nat.le_of_ble_eq_true rfl) (by decide) (Nat.le_refl _) (Nat.le_refl _) (fun v w h => ?_)
          obtain ⟨x48, w48, rfl, e48, rfl⟩ := h
          change G E g [(nr, aI E (180) (nf)), (m, .inr (6, [u0, .ref ib, .int sz, .int pl, u4, u5, u6, u7, u8, u9, u10, .ref nr, u12, u13, u14, .int w48])), (ib, aB E (1500) (f))] _ _ _ _ [.int x48]
          refine g_if_ne C 56 dX4_reads_51 (by decide) (fun c51 => ?_) (fun c51 => ?_)
          · replace e48 := bl1 e48 c51
            obtain ⟨hnd, rfl⟩ := e48
            have hd := num5 (b := lk f P) (fr := 12) (fun j h1 h2 => nD_dig (fr := 12) (n := 5) hnd j h1 h2)
            clear e1 e3 e5 e12 e14 e16 e23 e25 e27 e34 e36 e38 e45 e47 c8 c19 c30 c41 c51
            refine g_aload_n C dX4_reads_56 0 rfl ?_
            refine g_bipush C dX4_reads_57 (by decide) (fun x57 e57 => ?_)
            refine g_iconst C dX4_reads_59 (by decide) (fun x59 e59 => ?_)
            refine g_callV C r mv_X4_68 dX4_reads_60 (c_X4_number g.l E m ib f sz pl w48 u0 u4 u5 u6 u7 u8 u9 u10 (.ref nr) u12 u13 u14 S P x57 x59 (12) (5) hS hP hPS hSm (by omega) (by omega) (by decide) (by omega)) (wr := [(nr, aI E (180) (nf))]) (As := [.int x57, .int x59]) (rest := []) (Spl.at [0] [1, 2] rfl rfl rfl) 0 rfl rfl rfl rfl (Nat.le_of_ble_eq_true rfl) (by decide) (Nat.le_refl _) (Nat.le_refl _) (fun v w h => ?_)
            obtain ⟨x60, rfl, e60, rfl⟩ := h
            change G E g [(nr, aI E (180) (nf)), (m, .inr (6, [u0, .ref ib, .int sz, .int pl, u4, u5, u6, u7, u8, u9, u10, .ref nr, u12, u13, u14, .int w48])), (ib, aB E (1500) (f))] _ _ _ _ [.int x60]
            refine g_istore_n C dX4_reads_63 (by rw [hN]; decide) (lv' := [(2, .int x60), (0, .ref m), (1, .int x)]) rfl ?_
            refine g_aload_n C dX4_reads_64 1 rfl ?_
            refine g_iload_n C dX4_reads_65 2 rfl ?_
            refine g_iload_n C dX4_reads_66 0 rfl ?_
            refine g_callV C r mv_X4_78 dX4_reads_67 (c_X4_heads g.l E m ib f sz pl w48 u0 u4 u5 u6 u7 u8 u9 u10 (.ref nr) u12 u13 u14 S P x x60 all (numI (lk f P) 12 5) hS hP hPS hSm hx (by omega) hd hal h26) (wr := [(nr, aI E (180) (nf))]) (As := [.int x, .int x60]) (rest := []) (Spl.at [0] [1, 2] rfl rfl rfl) 0 rfl rfl rfl rfl (Nat.le_of_ble_eq_true rfl) (by decide) (Nat.le_refl _) (Nat.le_refl _) (fun v w h => ?_)
            obtain ⟨x67, w67, rfl, e67, rfl⟩ := h
            change G E g [(nr, aI E (180) (nf)), (m, .inr (6, [u0, .ref ib, .int sz, .int pl, u4, u5, u6, u7, u8, u9, u10, .ref nr, u12, u13, u14, .int w67])), (ib, aB E (1500) (f))] _ _ _ _ [.int x67]
            refine g_if_ne C 75 dX4_reads_70 (by decide) (fun c70 => ?_) (fun c70 => ?_)
            · replace e67 := bl1 e67 c70
              obtain ⟨hhd, rfl⟩ := e67
              have hok := wHd_ok h26 hhd
              clear e57 e59 c70
              refine g_iconst C dX4_reads_75 (by decide) (fun x75 e75 => ?_)
              refine g_istore_n C dX4_reads_76 (by rw [hN]; decide) (lv' := [(3, .int x75), (2, .int x60), (0, .ref m), (1, .int x)]) rfl ?_
              have loop77 : ∀ (nn : Nat) (n3 : Int32) (nfk : Nat → Int32) (k : Nat) (hm : ((numI (lk f P) 12 5 - 25) / 12).toNat - k < nn) (hk : k ≤ ((numI (lk f P) 12 5 - 25) / 12).toNat) (hp : n3.toInt = (k : Int)) (hrw : RW (lk f P) nfk k) (hn : fRow (lk f P) (numI (lk f P) 12 5).toNat all 0 ((numI (lk f P) 12 5 - 25) / 12).toNat = fRow (lk f P) (numI (lk f P) 12 5).toNat all k (((numI (lk f P) 12 5 - 25) / 12).toNat - k)), G E g [(m, .inr (6, [u0, .ref ib, .int sz, .int pl, u4, u5, u6, u7, u8, u9, u10, .ref nr, u12, u13, u14, .int w67])), (ib, aB E (1500) (f)), (nr, aI E (180) (nfk))] 0 0 77 [(0, .ref m), (1, .int x), (2, .int x60), (3, .int n3)] [] := by
                intro nn
                induction nn with
                | zero => intro n3 nfk k hm hk hp hrw hn; omega
                | succ nn ih77 =>
                  intro n3 nfk k hm hk hp hrw hn
                  refine g_iload_n C dX4_reads_77 3 rfl ?_
                  refine g_iload_n C dX4_reads_78 2 rfl ?_
                  refine g_bipush C dX4_reads_79 (by decide) (fun x79 e79 => ?_)
                  refine g_isub C dX4_reads_81 (by omega) (fun x81 e81 => ?_)
                  refine g_bipush C dX4_reads_82 (by decide) (fun x82 e82 => ?_)
                  refine g_idiv C dX4_reads_84 (12) (e82) (by omega) (fun x84 e84 => ?_)
                  refine g_icmp_ge C 106 dX4_reads_85 (by decide) (fun c85 => ?_) (fun c85 => ?_)
                  · refine g_iconst C dX4_reads_106 (by decide) (fun x106 e106 => ?_)
                    exact g_iret C F dX4_reads_107 rfl (nz_b x106 (by omega)) (Nat.le_refl _) (Nat.le_refl _) (by have h8 := fRow_zero (b := lk f P) (base := (numI (lk f P) 12 5).toNat) (all := all) (r := k) (n := ((numI (lk f P) 12 5 - 25) / 12).toNat - k) (by omega); have h9 := wRec_d (b := lk f P) (all := all) h26 hfx hnd hhd; exact ⟨_, _, _, rfl, Or.inl ⟨by omega, by omega, rfl, by rw [← show k = ((numI (lk f P) 12 5 - 25) / 12).toNat by omega]; exact hrw⟩, rfl⟩)
                  · refine g_aload_n C dX4_reads_88 0 rfl ?_
                    refine g_iload_n C dX4_reads_89 3 rfl ?_
                    refine g_iload_n C dX4_reads_90 2 rfl ?_
                    refine g_iload_n C dX4_reads_91 1 rfl ?_
                    refine g_callV C r mv_X4_81 dX4_reads_92 (c_X4_row g.l E m ib nr f (nfk) sz pl w67 u0 u4 u5 u6 u7 u8 u9 u10 u12 u13 u14 S P n3 x60 x k (numI (lk f P) 12 5).toNat all hS hP hPS hSm (by omega) (by omega) hx (by omega) (by omega) (by omega) hal (by omega)) (wr := []) (As := [.int n3, .int x60, .int x]) (rest := []) (Spl.at [] [0, 1, 2] rfl rfl rfl) 0 rfl rfl rfl rfl (Nat.le_of_ble_eq_true rfl) (by decide) (Nat.le_refl _) (Nat.le_refl _) (fun v w h => ?_)
                    obtain ⟨x92, w92, nf92, rfl, e92, rfl⟩ := h
                    change G E g [(m, .inr (6, [u0, .ref ib, .int sz, .int pl, u4, u5, u6, u7, u8, u9, u10, .ref nr, u12, u13, u14, .int w92])), (ib, aB E (1500) (f)), (nr, aI E (180) (nf92))] _ _ _ _ [.int x92]
                    refine g_if_ne C 100 dX4_reads_95 (by decide) (fun c95 => ?_) (fun c95 => ?_)
                    · replace e92 := bl1 e92 c95
                      obtain ⟨q1, rfl, q2, q3, q4, q5⟩ := e92
                      refine g_iinc C dX4_reads_100 3 rfl (by rw [hN]; decide) (by decide) (by omega) (fun x100 e100 => ?_)
                      refine g_lvE (lv' := [(3, .int x100), (0, .ref m), (1, .int x), (2, .int x60)]) rfl ?_
                      refine g_goto C 77 dX4_reads_103 (by decide) ?_
                      refine g_lv [1, 2, 3, 0] (lv' := [(0, .ref m), (1, .int x), (2, .int x60), (3, .int x100)]) rfl ?_
                      exact ih77 (x100) (nf92) (k + 1) (by omega) (by omega) (by omega) (by exact RW_step hrw q5 q2 q3 q4) (by rw [hn, fRow_miss q1 (by omega), show ((numI (lk f P) 12 5 - 25) / 12).toNat - k - 1 = ((numI (lk f P) 12 5 - 25) / 12).toNat - (k + 1) by omega])
                    · replace e92 := bl0 e92 c95
                      refine g_iconst C dX4_reads_98 (by decide) (fun x98 e98 => ?_)
                      exact g_iret C F dX4_reads_99 rfl (nz_b x98 (by omega)) (Nat.le_refl _) (Nat.le_refl _) (by have h8 := fRow_hit (b := lk f P) (base := (numI (lk f P) 12 5).toNat) (all := all) (r := k) (n := ((numI (lk f P) 12 5 - 25) / 12).toNat - k) e92.1 (by omega); have h9 := wRec_d (b := lk f P) (all := all) h26 hfx hnd hhd; exact ⟨_, _, _, rfl, Or.inr ⟨by omega, by omega, by omega⟩, rfl⟩)
              refine g_lv [2, 3, 1, 0] (lv' := [(0, .ref m), (1, .int x), (2, .int x60), (3, .int x75)]) rfl ?_
              refine g_perm [1, 2, 0] rfl (ws' := [(m, .inr (6, [u0, .ref ib, .int sz, .int pl, u4, u5, u6, u7, u8, u9, u10, .ref nr, u12, u13, u14, .int w67])), (ib, aB E (1500) (f)), (nr, aI E (180) (nf))]) rfl ?_
              exact loop77 _ (x75) (nf) (0) (Nat.lt_succ_self _) (by omega) (by omega) (by exact RW_0 _ _) (by rfl)
            · replace e67 := bl0 e67 c70
              refine g_iconst C dX4_reads_73 (by decide) (fun x73 e73 => ?_)
              refine g_perm [1, 2, 0] rfl (ws' := [(m, .inr (6, [u0, .ref ib, .int sz, .int pl, u4, u5, u6, u7, u8, u9, u10, .ref nr, u12, u13, u14, .int w67])), (ib, aB E (1500) (f)), (nr, aI E (180) (nf))]) rfl ?_
              exact g_iret C F dX4_reads_74 rfl (nz_b x73 (by omega)) (Nat.le_refl _) (Nat.le_refl _) (by have h9 := wRec_c (b := lk f P) (all := all) h26 hfx hnd (by omega); exact ⟨_, _, _, rfl, Or.inr ⟨by omega, by omega, by omega⟩, rfl⟩)
          · replace e48 := bl0 e48 c51
            refine g_iconst C dX4_reads_54 (by decide) (fun x54 e54 => ?_)
            refine g_perm [1, 2, 0] rfl (ws' := [(m, .inr (6, [u0, .ref ib, .int sz, .int pl, u4, u5, u6, u7, u8, u9, u10, .ref nr, u12, u13, u14, .int w48])), (ib, aB E (1500) (f)), (nr, aI E (180) (nf))]) rfl ?_
            exact g_iret C F dX4_reads_55 rfl (nz_b x54 (by omega)) (Nat.le_refl _) (Nat.le_refl _) (by have h9 := wRec_b (b := lk f P) (all := all) h26 hfx (by omega); exact ⟨_, _, _, rfl, Or.inr ⟨by omega, by omega, by omega⟩, rfl⟩)
