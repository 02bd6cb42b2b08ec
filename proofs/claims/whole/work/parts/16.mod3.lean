set_option maxHeartbeats 3000000 in
set_option maxRecDepth 10000 in
theorem c_X4_row (l : Launch) (E : GE) (m ib nr : Nat) (f nf : Nat → Int32) (sz pl wr : Int32) (u0 u4 u5 u6 u7 u8 u9 u10 u12 u13 u14 : Value) (S P : Nat) (x y z : Int32) (rr base all : Nat) (hS : sz.toInt = (S : Int)) (hP : pl.toInt = (P : Int)) (hPS : P ≤ S) (hSm : S ≤ 1500) (hx : x.toInt = (rr : Int)) (hy : y.toInt = (base : Int)) (hz : z.toInt = (all : Int)) (hr : rr < 60) (hrow : 24 + 12 * rr + 12 ≤ S - P) (hb1 : base ≤ S - P) (hal : all ≤ S - P) (ha0 : 1 ≤ all) : Ctr l E yX4_row cX4_row 8 (some .boolean) 3 (0) (0) [.ref m, .int x, .int y, .int z] [(m, .inr (6, [u0, .ref ib, .int sz, .int pl, u4, u5, u6, u7, u8, u9, u10, .ref nr, u12, u13, u14, .int wr])), (ib, aB E (1500) (f)), (nr, aI E (180) (nf))] (fun v w => ∃ (r wr2 : Int32) (nf2 : Nat → Int32), v = some (.int r) ∧ ((r.toInt = 1 ∧ wRow (lk f P) (24 + 12 * rr) base all = -1 ∧ wr2 = wr ∧ (nf2 (3 * rr)).toInt = numI (lk f P) (24 + 12 * rr) 3 ∧ (nf2 (3 * rr + 1)).toInt = numI (lk f P) (24 + 12 * rr + 3) 4 ∧ (nf2 (3 * rr + 2)).toInt = numI (lk f P) (24 + 12 * rr + 7) 5 ∧ (∀ j, j < 3 * rr → nf2 j = nf j)) ∨ (r.toInt = 0 ∧ wRow (lk f P) (24 + 12 * rr) base all ≠ -1 ∧ wr2.toInt = wRow (lk f P) (24 + 12 * rr) base all)) ∧ w = [(m, .inr (6, [u0, .ref ib, .int sz, .int pl, u4, u5, u6, u7, u8, u9, u10, .ref nr, u12, u13, u14, .int wr2])), (ib, aB E (1500) (f)), (nr, aI E (180) (nf2))]) := by
  refine Ctr.intro (by decide) (Nat.le_of_ble_eq_true rfl) (fun g hgl hN C r F hi => ?_)
  subst hgl
  have hb8 := lk_lt f P
  change G E g [(m, .inr (6, [u0, .ref ib, .int sz, .int pl, u4, u5, u6, u7, u8, u9, u10, .ref nr, u12, u13, u14, .int wr])), (ib, aB E (1500) (f)), (nr, aI E (180) (nf))] 0 0 0 [(0, .ref m), (1, .int x), (2, .int y), (3, .int z)] []
  refine g_bipush C dX4_row_0 (by decide) (fun x0 e0 => ?_)
  refine g_bipush C dX4_row_2 (by decide) (fun x2 e2 => ?_)
  refine g_iload_n C dX4_row_4 1 rfl ?_
  refine g_imul C dX4_row_5 (12 * x.toInt) (by rw [e2]) (by omega) (fun x5 e5 => ?_)
  refine g_iadd C dX4_row_6 (by omega) (fun x6 e6 => ?_)
  refine g_istore C dX4_row_7 (by rw [hN]; decide) (lv' := [(4, .int x6), (0, .ref m), (1, .int x), (2, .int y), (3, .int z)]) rfl ?_
  refine g_aload_n C dX4_row_9 1 rfl ?_
  refine g_iload C dX4_row_10 0 rfl ?_
  refine g_bipush C dX4_row_12 (by decide) (fun x12 e12 => ?_)
  refine g_callV C r mv_X4_65 dX4_row_14 (c_X4_digits g.l E m ib f sz pl wr u0 u4 u5 u6 u7 u8 u9 u10 (.ref nr) u12 u13 u14 S P x6 x12 (24 + 12 * rr) (12) hS hP hPS hSm (by omega) (by omega) (by omega)) (wr := [(nr, aI E (180) (nf))]) (As := [.int x6, .int x12]) (rest := []) (Spl.at [2] [0, 1] rfl rfl rfl) 0 rfl rfl rfl rfl (Nat.le_of_ble_eq_true rfl) (by decide) (Nat.le_refl _) (Nat.le_refl _) (fun v w h => ?_)
  obtain ⟨x14, w14, rfl, e14, rfl⟩ := h
  change G E g [(nr, aI E (180) (nf)), (m, .inr (6, [u0, .ref ib, .int sz, .int pl, u4, u5, u6, u7, u8, u9, u10, .ref nr, u12, u13, u14, .int w14])), (ib, aB E (1500) (f))] _ _ _ _ [.int x14]
  refine g_if_ne C 22 dX4_row_17 (by decide) (fun c17 => ?_) (fun c17 => ?_)
  · replace e14 := bl1 e14 c17
    have hrw : x6.toInt = ((24 + 12 * rr : Nat) : Int) := by omega
    have hd := nD_dig (b := lk f P) (fr := 24 + 12 * rr) (n := 12) e14.1
    have hn3 := num3 (b := lk f P) (fr := 24 + 12 * rr) (fun j h1 h2 => hd j (by omega) (by omega))
    have hn4 := num4 (b := lk f P) (fr := 24 + 12 * rr + 3) (fun j h1 h2 => hd j (by omega) (by omega))
    have hn5 := num5 (b := lk f P) (fr := 24 + 12 * rr + 7) (fun j h1 h2 => hd j (by omega) (by omega))
    obtain ⟨hnd, rfl⟩ := e14
    clear hd e0 e2 e5 e6 e12 c17
    refine g_aload_n C dX4_row_22 1 rfl ?_
    refine g_iload C dX4_row_23 0 rfl ?_
    refine g_iconst C dX4_row_25 (by decide) (fun x25 e25 => ?_)
    refine g_callV C r mv_X4_68 dX4_row_26 (c_X4_number g.l E m ib f sz pl w14 u0 u4 u5 u6 u7 u8 u9 u10 (.ref nr) u12 u13 u14 S P x6 x25 (24 + 12 * rr) (3) hS hP hPS hSm (by omega) (by omega) (by decide) (by omega)) (wr := [(nr, aI E (180) (nf))]) (As := [.int x6, .int x25]) (rest := []) (Spl.at [0] [1, 2] rfl rfl rfl) 0 rfl rfl rfl rfl (Nat.le_of_ble_eq_true rfl) (by decide) (Nat.le_refl _) (Nat.le_refl _) (fun v w h => ?_)
    obtain ⟨x26, rfl, e26, rfl⟩ := h
    change G E g [(nr, aI E (180) (nf)), (m, .inr (6, [u0, .ref ib, .int sz, .int pl, u4, u5, u6, u7, u8, u9, u10, .ref nr, u12, u13, u14, .int w14])), (ib, aB E (1500) (f))] _ _ _ _ [.int x26]
    refine g_istore C dX4_row_29 (by rw [hN]; decide) (lv' := [(5, .int x26), (4, .int x6), (0, .ref m), (1, .int x), (2, .int y), (3, .int z)]) rfl ?_
    refine g_aload_n C dX4_row_31 2 rfl ?_
    refine g_iload C dX4_row_32 1 rfl ?_
    refine g_iconst C dX4_row_34 (by decide) (fun x34 e34 => ?_)
    refine g_iadd C dX4_row_35 (by omega) (fun x35 e35 => ?_)
    refine g_iconst C dX4_row_36 (by decide) (fun x36 e36 => ?_)
    refine g_callV C r mv_X4_68 dX4_row_37 (c_X4_number g.l E m ib f sz pl w14 u0 u4 u5 u6 u7 u8 u9 u10 (.ref nr) u12 u13 u14 S P x35 x36 (24 + 12 * rr + 3) (4) hS hP hPS hSm (by omega) (by omega) (by decide) (by omega)) (wr := [(nr, aI E (180) (nf))]) (As := [.int x35, .int x36]) (rest := []) (Spl.at [0] [1, 2] rfl rfl rfl) 0 rfl rfl rfl rfl (Nat.le_of_ble_eq_true rfl) (by decide) (Nat.le_refl _) (Nat.le_refl _) (fun v w h => ?_)
    obtain ⟨x37, rfl, e37, rfl⟩ := h
    change G E g [(nr, aI E (180) (nf)), (m, .inr (6, [u0, .ref ib, .int sz, .int pl, u4, u5, u6, u7, u8, u9, u10, .ref nr, u12, u13, u14, .int w14])), (ib, aB E (1500) (f))] _ _ _ _ [.int x37]
    refine g_istore C dX4_row_40 (by rw [hN]; decide) (lv' := [(6, .int x37), (5, .int x26), (4, .int x6), (0, .ref m), (1, .int x), (2, .int y), (3, .int z)]) rfl ?_
    refine g_aload_n C dX4_row_42 3 rfl ?_
    refine g_iload C dX4_row_43 2 rfl ?_
    refine g_bipush C dX4_row_45 (by decide) (fun x45 e45 => ?_)
    refine g_iadd C dX4_row_47 (by omega) (fun x47 e47 => ?_)
    refine g_iconst C dX4_row_48 (by decide) (fun x48 e48 => ?_)
    refine g_callV C r mv_X4_68 dX4_row_49 (c_X4_number g.l E m ib f sz pl w14 u0 u4 u5 u6 u7 u8 u9 u10 (.ref nr) u12 u13 u14 S P x47 x48 (24 + 12 * rr + 7) (5) hS hP hPS hSm (by omega) (by omega) (by decide) (by omega)) (wr := [(nr, aI E (180) (nf))]) (As := [.int x47, .int x48]) (rest := []) (Spl.at [0] [1, 2] rfl rfl rfl) 0 rfl rfl rfl rfl (Nat.le_of_ble_eq_true rfl) (by decide) (Nat.le_refl _) (Nat.le_refl _) (fun v w h => ?_)
    obtain ⟨x49, rfl, e49, rfl⟩ := h
    change G E g [(nr, aI E (180) (nf)), (m, .inr (6, [u0, .ref ib, .int sz, .int pl, u4, u5, u6, u7, u8, u9, u10, .ref nr, u12, u13, u14, .int w14])), (ib, aB E (1500) (f))] _ _ _ _ [.int x49]
    refine g_istore C dX4_row_52 (by rw [hN]; decide) (lv' := [(7, .int x49), (6, .int x37), (5, .int x26), (4, .int x6), (0, .ref m), (1, .int x), (2, .int y), (3, .int z)]) rfl ?_
    have J85 : ∀ (_ : True) (hbad : numI (lk f P) (24 + 12 * rr + 3) 4 < 1 ∨ (9 < numI (lk f P) (24 + 12 * rr) 3 ∧ numI (lk f P) (24 + 12 * rr + 3) 4 < 3) ∨ (base : Int) + numI (lk f P) (24 + 12 * rr + 7) 5 + numI (lk f P) (24 + 12 * rr + 3) 4 > (all : Int) - 1), G E g [(m, .inr (6, [u0, .ref ib, .int sz, .int pl, u4, u5, u6, u7, u8, u9, u10, .ref nr, u12, u13, u14, .int w14])), (ib, aB E (1500) (f)), (nr, aI E (180) (nf))] 0 0 85 [(0, .ref m), (1, .int x), (2, .int y), (3, .int z), (4, .int x6), (5, .int x26), (6, .int x37), (7, .int x49)] [] := by
      intro _ hbad
      refine g_aload_n C dX4_row_85 0 rfl ?_
      refine g_iload C dX4_row_86 4 rfl ?_
      refine g_iconst C dX4_row_88 (by decide) (fun x88 e88 => ?_)
      refine g_iadd C dX4_row_89 (by omega) (fun x89 e89 => ?_)
      refine g_callV C r mv_X4_54 dX4_row_90 (c_X4_bad g.l E m ib sz pl w14 u0 u4 u5 u6 u7 u8 u9 u10 (.ref nr) u12 u13 u14 x89) (wr := [(ib, aB E (1500) (f)), (nr, aI E (180) (nf))]) (As := [.int x89]) (rest := []) (Spl.at [1, 2] [0] rfl rfl rfl) 0 rfl rfl rfl rfl (Nat.le_of_ble_eq_true rfl) (by decide) (Nat.le_refl _) (Nat.le_refl _) (fun v w h => ?_)
      obtain ⟨x90, rfl, e90, rfl⟩ := h
      change G E g [(ib, aB E (1500) (f)), (nr, aI E (180) (nf)), (m, .inr (6, [u0, .ref ib, .int sz, .int pl, u4, u5, u6, u7, u8, u9, u10, .ref nr, u12, u13, u14, .int x89]))] _ _ _ _ [.int x90]
      refine g_perm [2, 0, 1] rfl (ws' := [(m, .inr (6, [u0, .ref ib, .int sz, .int pl, u4, u5, u6, u7, u8, u9, u10, .ref nr, u12, u13, u14, .int x89])), (ib, aB E (1500) (f)), (nr, aI E (180) (nf))]) rfl ?_
      exact g_iret C F dX4_row_93 rfl (nz_b x90 (by omega)) (Nat.le_refl _) (Nat.le_refl _) (by have h9 := wRow_2 (b := lk f P) (row := 24 + 12 * rr) (base := base) (all := all) hnd hbad; exact ⟨_, _, _, rfl, Or.inr ⟨by omega, by omega, by omega⟩, rfl⟩)
    have J94 : ∀ (_ : True) (hgood : ¬ (numI (lk f P) (24 + 12 * rr + 3) 4 < 1 ∨ (9 < numI (lk f P) (24 + 12 * rr) 3 ∧ numI (lk f P) (24 + 12 * rr + 3) 4 < 3) ∨ (base : Int) + numI (lk f P) (24 + 12 * rr + 7) 5 + numI (lk f P) (24 + 12 * rr + 3) 4 > (all : Int) - 1)), G E g [(m, .inr (6, [u0, .ref ib, .int sz, .int pl, u4, u5, u6, u7, u8, u9, u10, .ref nr, u12, u13, u14, .int w14])), (ib, aB E (1500) (f)), (nr, aI E (180) (nf))] 0 0 94 [(0, .ref m), (1, .int x), (2, .int y), (3, .int z), (4, .int x6), (5, .int x26), (6, .int x37), (7, .int x49)] [] := by
      intro _ hgood
      refine g_aload_n C dX4_row_94 0 rfl ?_
      refine gf_X4_30 C 0 rfl rfl dX4_row_95 ?_
      refine g_iconst C dX4_row_98 (by decide) (fun x98 e98 => ?_)
      refine g_iload_n C dX4_row_99 1 rfl ?_
      refine g_imul C dX4_row_100 (3 * x.toInt) (by rw [e98]) (by omega) (fun x100 e100 => ?_)
      refine g_iload C dX4_row_101 5 rfl ?_
      refine g_iastore C 2 rfl dX4_row_103 (3 * rr) (by omega) (by omega) ?_
      change G E g [(m, .inr (6, [u0, .ref ib, .int sz, .int pl, u4, u5, u6, u7, u8, u9, u10, .ref nr, u12, u13, u14, .int w14])), (ib, aB E (1500) (f)), (nr, aI E (180) (upd (nf) (3 * rr) x26))] _ _ _ _ _
      refine g_aload_n C dX4_row_104 0 rfl ?_
      refine gf_X4_30 C 0 rfl rfl dX4_row_105 ?_
      refine g_iconst C dX4_row_108 (by decide) (fun x108 e108 => ?_)
      refine g_iload_n C dX4_row_109 1 rfl ?_
      refine g_imul C dX4_row_110 (3 * x.toInt) (by rw [e108]) (by omega) (fun x110 e110 => ?_)
      refine g_iconst C dX4_row_111 (by decide) (fun x111 e111 => ?_)
      refine g_iadd C dX4_row_112 (by omega) (fun x112 e112 => ?_)
      refine g_iload C dX4_row_113 6 rfl ?_
      refine g_iastore C 2 rfl dX4_row_115 (3 * rr + 1) (by omega) (by omega) ?_
      change G E g [(m, .inr (6, [u0, .ref ib, .int sz, .int pl, u4, u5, u6, u7, u8, u9, u10, .ref nr, u12, u13, u14, .int w14])), (ib, aB E (1500) (f)), (nr, aI E (180) (upd (upd (nf) (3 * rr) x26) (3 * rr + 1) x37))] _ _ _ _ _
      refine g_aload_n C dX4_row_116 0 rfl ?_
      refine gf_X4_30 C 0 rfl rfl dX4_row_117 ?_
      refine g_iconst C dX4_row_120 (by decide) (fun x120 e120 => ?_)
      refine g_iload_n C dX4_row_121 1 rfl ?_
      refine g_imul C dX4_row_122 (3 * x.toInt) (by rw [e120]) (by omega) (fun x122 e122 => ?_)
      refine g_iconst C dX4_row_123 (by decide) (fun x123 e123 => ?_)
      refine g_iadd C dX4_row_124 (by omega) (fun x124 e124 => ?_)
      refine g_iload C dX4_row_125 7 rfl ?_
      refine g_iastore C 2 rfl dX4_row_127 (3 * rr + 2) (by omega) (by omega) ?_
      change G E g [(m, .inr (6, [u0, .ref ib, .int sz, .int pl, u4, u5, u6, u7, u8, u9, u10, .ref nr, u12, u13, u14, .int w14])), (ib, aB E (1500) (f)), (nr, aI E (180) (upd (upd (upd (nf) (3 * rr) x26) (3 * rr + 1) x37) (3 * rr + 2) x49))] _ _ _ _ _
      refine g_iload C dX4_row_128 5 rfl ?_
      refine g_bipush C dX4_row_130 (by decide) (fun x130 e130 => ?_)
      refine g_icmp_ge C 148 dX4_row_132 (by decide) (fun c132 => ?_) (fun c132 => ?_)
      · refine g_aload_n C dX4_row_148 0 rfl ?_
        refine g_iload_n C dX4_row_149 2 rfl ?_
        refine g_iload C dX4_row_150 7 rfl ?_
        refine g_iadd C dX4_row_152 (by omega) (fun x152 e152 => ?_)
        refine g_iload C dX4_row_153 6 rfl ?_
        refine g_callV C r mv_X4_75 dX4_row_155 (c_X4_data g.l E m ib f sz pl w14 u0 u4 u5 u6 u7 u8 u9 u10 (.ref nr) u12 u13 u14 S P x152 x37 (base + (numI (lk f P) (24 + 12 * rr + 7) 5).toNat) (numI (lk f P) (24 + 12 * rr + 3) 4).toNat ((base + (numI (lk f P) (24 + 12 * rr + 7) 5).toNat) + (numI (lk f P) (24 + 12 * rr + 3) 4).toNat - 1) hS hP hPS hSm (by omega) (by omega) (by omega) rfl (by omega)) (wr := [(nr, aI E (180) (upd (upd (upd (nf) (3 * rr) x26) (3 * rr + 1) x37) (3 * rr + 2) x49))]) (As := [.int x152, .int x37]) (rest := []) (Spl.at [2] [0, 1] rfl rfl rfl) 0 rfl rfl rfl rfl (Nat.le_of_ble_eq_true rfl) (by decide) (Nat.le_refl _) (Nat.le_refl _) (fun v w h => ?_)
        obtain ⟨x155, w155, rfl, e155, rfl⟩ := h
        change G E g [(nr, aI E (180) (upd (upd (upd (nf) (3 * rr) x26) (3 * rr + 1) x37) (3 * rr + 2) x49)), (m, .inr (6, [u0, .ref ib, .int sz, .int pl, u4, u5, u6, u7, u8, u9, u10, .ref nr, u12, u13, u14, .int w155])), (ib, aB E (1500) (f))] _ _ _ _ [.int x155]
        refine g_perm [1, 2, 0] rfl (ws' := [(m, .inr (6, [u0, .ref ib, .int sz, .int pl, u4, u5, u6, u7, u8, u9, u10, .ref nr, u12, u13, u14, .int w155])), (ib, aB E (1500) (f)), (nr, aI E (180) (upd (upd (upd (nf) (3 * rr) x26) (3 * rr + 1) x37) (3 * rr + 2) x49))]) rfl ?_
        exact g_iret C F dX4_row_158 rfl (nz_b x155 (by omega)) (Nat.le_refl _) (Nat.le_refl _) (by have h9 := wRow_4 (b := lk f P) (row := 24 + 12 * rr) (base := base) (all := all) hnd hgood (by omega); rcases e155 with ⟨a1, a2, a3⟩ | ⟨a1, a2, a3⟩; exact ⟨_, _, _, rfl, Or.inl ⟨a1, by omega, a3, by rw [upd3_1]; omega, by rw [upd3_2]; omega, by rw [upd3_3]; omega, upd3_o _ _ _ _ _⟩, rfl⟩; exact ⟨_, _, _, rfl, Or.inr ⟨by omega, by omega, by omega⟩, rfl⟩)
      · refine g_aload_n C dX4_row_135 0 rfl ?_
        refine g_iload_n C dX4_row_136 2 rfl ?_
        refine g_iload C dX4_row_137 7 rfl ?_
        refine g_iadd C dX4_row_139 (by omega) (fun x139 e139 => ?_)
        refine g_iload C dX4_row_140 6 rfl ?_
        refine g_callV C r mv_X4_72 dX4_row_142 (c_X4_control g.l E m ib f sz pl w14 u0 u4 u5 u6 u7 u8 u9 u10 (.ref nr) u12 u13 u14 S P x139 x37 (base + (numI (lk f P) (24 + 12 * rr + 7) 5).toNat) (numI (lk f P) (24 + 12 * rr + 3) 4).toNat ((base + (numI (lk f P) (24 + 12 * rr + 7) 5).toNat) + (numI (lk f P) (24 + 12 * rr + 3) 4).toNat - 1) hS hP hPS hSm (by omega) (by omega) (by omega) rfl (by omega)) (wr := [(nr, aI E (180) (upd (upd (upd (nf) (3 * rr) x26) (3 * rr + 1) x37) (3 * rr + 2) x49))]) (As := [.int x139, .int x37]) (rest := []) (Spl.at [2] [0, 1] rfl rfl rfl) 0 rfl rfl rfl rfl (Nat.le_of_ble_eq_true rfl) (by decide) (Nat.le_refl _) (Nat.le_refl _) (fun v w h => ?_)
        obtain ⟨x142, w142, rfl, e142, rfl⟩ := h
        change G E g [(nr, aI E (180) (upd (upd (upd (nf) (3 * rr) x26) (3 * rr + 1) x37) (3 * rr + 2) x49)), (m, .inr (6, [u0, .ref ib, .int sz, .int pl, u4, u5, u6, u7, u8, u9, u10, .ref nr, u12, u13, u14, .int w142])), (ib, aB E (1500) (f))] _ _ _ _ [.int x142]
        refine g_goto C 158 dX4_row_145 (by decide) ?_
        refine g_perm [1, 2, 0] rfl (ws' := [(m, .inr (6, [u0, .ref ib, .int sz, .int pl, u4, u5, u6, u7, u8, u9, u10, .ref nr, u12, u13, u14, .int w142])), (ib, aB E (1500) (f)), (nr, aI E (180) (upd (upd (upd (nf) (3 * rr) x26) (3 * rr + 1) x37) (3 * rr + 2) x49))]) rfl ?_
        exact g_iret C F dX4_row_158 rfl (nz_b x142 (by omega)) (Nat.le_refl _) (Nat.le_refl _) (by have h9 := wRow_3 (b := lk f P) (row := 24 + 12 * rr) (base := base) (all := all) hnd hgood (by omega); rcases e142 with ⟨a1, a2, a3⟩ | ⟨a1, a2, a3⟩; exact ⟨_, _, _, rfl, Or.inl ⟨a1, by omega, a3, by rw [upd3_1]; omega, by rw [upd3_2]; omega, by rw [upd3_3]; omega, upd3_o _ _ _ _ _⟩, rfl⟩; exact ⟨_, _, _, rfl, Or.inr ⟨by omega, by omega, by omega⟩, rfl⟩)
    refine g_iload C dX4_row_54 1 rfl ?_
    refine g_if_eq C 85 dX4_row_56 (by decide) (fun c56 => ?_) (fun c56 => ?_)
    · refine g_lv [4, 5, 6, 7, 3, 2, 1, 0] (lv' := [(0, .ref m), (1, .int x), (2, .int y), (3, .int z), (4, .int x6), (5, .int x26), (6, .int x37), (7, .int x49)]) rfl ?_
      refine g_perm [1, 2, 0] rfl (ws' := [(m, .inr (6, [u0, .ref ib, .int sz, .int pl, u4, u5, u6, u7, u8, u9, u10, .ref nr, u12, u13, u14, .int w14])), (ib, aB E (1500) (f)), (nr, aI E (180) (nf))]) rfl ?_
      exact J85 trivial (by omega)
    · refine g_iload_n C dX4_row_59 6 rfl ?_
      refine g_iload C dX4_row_60 0 rfl ?_
      refine g_iadd C dX4_row_62 (by omega) (fun x62 e62 => ?_)
      refine g_iload C dX4_row_63 1 rfl ?_
      refine g_iadd C dX4_row_65 (by omega) (fun x65 e65 => ?_)
      refine g_iload_n C dX4_row_66 7 rfl ?_
      refine g_iconst C dX4_row_67 (by decide) (fun x67 e67 => ?_)
      refine g_isub C dX4_row_68 (by omega) (fun x68 e68 => ?_)
      refine g_icmp_gt C 85 dX4_row_69 (by decide) (fun c69 => ?_) (fun c69 => ?_)
      · refine g_lv [4, 5, 6, 7, 3, 2, 1, 0] (lv' := [(0, .ref m), (1, .int x), (2, .int y), (3, .int z), (4, .int x6), (5, .int x26), (6, .int x37), (7, .int x49)]) rfl ?_
        refine g_perm [1, 2, 0] rfl (ws' := [(m, .inr (6, [u0, .ref ib, .int sz, .int pl, u4, u5, u6, u7, u8, u9, u10, .ref nr, u12, u13, u14, .int w14])), (ib, aB E (1500) (f)), (nr, aI E (180) (nf))]) rfl ?_
        exact J85 trivial (by omega)
      · refine g_iload C dX4_row_72 2 rfl ?_
        refine g_bipush C dX4_row_74 (by decide) (fun x74 e74 => ?_)
        refine g_icmp_le C 94 dX4_row_76 (by decide) (fun c76 => ?_) (fun c76 => ?_)
        · refine g_lv [4, 5, 6, 7, 3, 2, 1, 0] (lv' := [(0, .ref m), (1, .int x), (2, .int y), (3, .int z), (4, .int x6), (5, .int x26), (6, .int x37), (7, .int x49)]) rfl ?_
          refine g_perm [1, 2, 0] rfl (ws' := [(m, .inr (6, [u0, .ref ib, .int sz, .int pl, u4, u5, u6, u7, u8, u9, u10, .ref nr, u12, u13, u14, .int w14])), (ib, aB E (1500) (f)), (nr, aI E (180) (nf))]) rfl ?_
          exact J94 trivial (by omega)
        · refine g_iload C dX4_row_79 1 rfl ?_
          refine g_iconst C dX4_row_81 (by decide) (fun x81 e81 => ?_)
          refine g_icmp_ge C 94 dX4_row_82 (by decide) (fun c82 => ?_) (fun c82 => ?_)
          · refine g_lv [4, 5, 6, 7, 3, 2, 1, 0] (lv' := [(0, .ref m), (1, .int x), (2, .int y), (3, .int z), (4, .int x6), (5, .int x26), (6, .int x37), (7, .int x49)]) rfl ?_
            refine g_perm [1, 2, 0] rfl (ws' := [(m, .inr (6, [u0, .ref ib, .int sz, .int pl, u4, u5, u6, u7, u8, u9, u10, .ref nr, u12, u13, u14, .int w14])), (ib, aB E (1500) (f)), (nr, aI E (180) (nf))]) rfl ?_
            exact J94 trivial (by omega)
          · refine g_lv [4, 5, 6, 7, 3, 2, 1, 0] (lv' := [(0, .ref m), (1, .int x), (2, .int y), (3, .int z), (4, .int x6), (5, .int x26), (6, .int x37), (7, .int x49)]) rfl ?_
            refine g_perm [1, 2, 0] rfl (ws' := [(m, .inr (6, [u0, .ref ib, .int sz, .int pl, u4, u5, u6, u7, u8, u9, u10, .ref nr, u12, u13, u14, .int w14])), (ib, aB E (1500) (f)), (nr, aI E (180) (nf))]) rfl ?_
            exact J85 trivial (by omega)
  · replace e14 := bl0 e14 c17
    refine g_iconst C dX4_row_20 (by decide) (fun x20 e20 => ?_)
    refine g_perm [1, 2, 0] rfl (ws' := [(m, .inr (6, [u0, .ref ib, .int sz, .int pl, u4, u5, u6, u7, u8, u9, u10, .ref nr, u12, u13, u14, .int w14])), (ib, aB E (1500) (f)), (nr, aI E (180) (nf))]) rfl ?_
    exact g_iret C F dX4_row_21 rfl (nz_b x20 (by omega)) (Nat.le_refl _) (Nat.le_refl _) (by have h9 := wRow_1 (b := lk f P) (row := 24 + 12 * rr) (base := base) (all := all) (by omega); exact ⟨_, _, _, rfl, Or.inr ⟨by omega, by omega, by omega⟩, rfl⟩)
