set_option maxHeartbeats 3000000 in
set_option maxRecDepth 10000 in
theorem c_X4_data (l : Launch) (E : GE) (m ib : Nat) (f : Nat → Int32) (sz pl wr : Int32) (u0 u4 u5 u6 u7 u8 u9 u10 u11 u12 u13 u14 : Value) (S P : Nat) (x y : Int32) (fr n la : Nat) (hS : sz.toInt = (S : Int)) (hP : pl.toInt = (P : Int)) (hPS : P ≤ S) (hSm : S ≤ 1500) (hx : x.toInt = (fr : Int)) (hy : y.toInt = (n : Int)) (hn1 : 3 ≤ n) (hla : la = fr + n - 1) (hl : la < S - P) : Ctr l E yX4_data cX4_data 5 (some .boolean) 2 (0) (0) [.ref m, .int x, .int y] [(m, .inr (6, [u0, .ref ib, .int sz, .int pl, u4, u5, u6, u7, u8, u9, u10, u11, u12, u13, u14, .int wr])), (ib, aB E (1500) (f))] (fun v w => ∃ (r wr2 : Int32), v = some (.int r) ∧ ((r.toInt = 1 ∧ wOth (lk f P) fr la = -1 ∧ wr2 = wr) ∨ (r.toInt = 0 ∧ wOth (lk f P) fr la ≠ -1 ∧ wr2.toInt = wOth (lk f P) fr la)) ∧ w = [(m, .inr (6, [u0, .ref ib, .int sz, .int pl, u4, u5, u6, u7, u8, u9, u10, u11, u12, u13, u14, .int wr2])), (ib, aB E (1500) (f))]) := by
  refine Ctr.intro (by decide) (Nat.le_of_ble_eq_true rfl) (fun g hgl hN C r F hi => ?_)
  subst hgl
  have hb8 := lk_lt f P
  change G E g [(m, .inr (6, [u0, .ref ib, .int sz, .int pl, u4, u5, u6, u7, u8, u9, u10, u11, u12, u13, u14, .int wr])), (ib, aB E (1500) (f))] 0 0 0 [(0, .ref m), (1, .int x), (2, .int y)] []
  refine g_iload_n C dX4_data_0 1 rfl ?_
  refine g_iload_n C dX4_data_1 2 rfl ?_
  refine g_iadd C dX4_data_2 (by omega) (fun x2 e2 => ?_)
  refine g_iconst C dX4_data_3 (by decide) (fun x3 e3 => ?_)
  refine g_isub C dX4_data_4 (by omega) (fun x4 e4 => ?_)
  refine g_istore_n C dX4_data_5 (by rw [hN]; decide) (lv' := [(3, .int x4), (0, .ref m), (1, .int x), (2, .int y)]) rfl ?_
  have J30 : ∀ (_ : True) (hbad : nM (lk f P) fr 2 ≠ -1), G E g [(m, .inr (6, [u0, .ref ib, .int sz, .int pl, u4, u5, u6, u7, u8, u9, u10, u11, u12, u13, u14, .int wr])), (ib, aB E (1500) (f))] 0 0 30 [(0, .ref m), (1, .int x), (2, .int y), (3, .int x4)] [] := by
    intro _ hbad
    refine g_aload_n C dX4_data_30 0 rfl ?_
    refine g_aload_n C dX4_data_31 0 rfl ?_
    refine g_iload_n C dX4_data_32 1 rfl ?_
    refine g_callV C r mv_X4_50 dX4_data_33 (c_X4_look g.l E m ib f sz pl wr u0 u4 u5 u6 u7 u8 u9 u10 u11 u12 u13 u14 S P x (fr) hS hP hPS hSm (by omega) (by omega)) (wr := []) (As := [.int x]) (rest := [.ref m]) (Spl.at [] [0, 1] rfl rfl rfl) 0 rfl rfl rfl rfl (Nat.le_of_ble_eq_true rfl) (by decide) (Nat.le_refl _) (Nat.le_refl _) (fun v w h => ?_)
    obtain ⟨x33, rfl, e33, rfl⟩ := h
    change G E g [(m, .inr (6, [u0, .ref ib, .int sz, .int pl, u4, u5, u6, u7, u8, u9, u10, u11, u12, u13, u14, .int wr])), (ib, aB E (1500) (f))] _ _ _ _ [.int x33, .ref m]
    have hbx33 := hb8 (fr)
    refine g_callS C r ms_X4_58 dX4_data_36 (c_X4_isMark g.l E x33) (wr := [(m, .inr (6, [u0, .ref ib, .int sz, .int pl, u4, u5, u6, u7, u8, u9, u10, u11, u12, u13, u14, .int wr])), (ib, aB E (1500) (f))]) (As := [.int x33]) (rest := [.ref m]) (Spl.at [0, 1] [] rfl rfl rfl) rfl (Nat.le_of_ble_eq_true rfl) (by decide) (Nat.le_refl _) (Nat.le_refl _) (fun v w h => ?_)
    obtain ⟨x36, rfl, e36, rfl⟩ := h
    change G E g [(m, .inr (6, [u0, .ref ib, .int sz, .int pl, u4, u5, u6, u7, u8, u9, u10, u11, u12, u13, u14, .int wr])), (ib, aB E (1500) (f))] _ _ _ _ [.int x36, .ref m]
    refine g_if_eq C 46 dX4_data_39 (by decide) (fun c39 => ?_) (fun c39 => ?_)
    · replace e36 := bl0 e36 c39
      refine g_iload_n C dX4_data_46 1 rfl ?_
      refine g_iconst C dX4_data_47 (by decide) (fun x47 e47 => ?_)
      refine g_iadd C dX4_data_48 (by omega) (fun x48 e48 => ?_)
      refine g_callV C r mv_X4_54 dX4_data_49 (c_X4_bad g.l E m ib sz pl wr u0 u4 u5 u6 u7 u8 u9 u10 u11 u12 u13 u14 x48) (wr := [(ib, aB E (1500) (f))]) (As := [.int x48]) (rest := []) (Spl.at [1] [0] rfl rfl rfl) 0 rfl rfl rfl rfl (Nat.le_of_ble_eq_true rfl) (by decide) (Nat.le_refl _) (Nat.le_refl _) (fun v w h => ?_)
      obtain ⟨x49, rfl, e49, rfl⟩ := h
      change G E g [(ib, aB E (1500) (f)), (m, .inr (6, [u0, .ref ib, .int sz, .int pl, u4, u5, u6, u7, u8, u9, u10, u11, u12, u13, u14, .int x48]))] _ _ _ _ [.int x49]
      refine g_perm [1, 0] rfl (ws' := [(m, .inr (6, [u0, .ref ib, .int sz, .int pl, u4, u5, u6, u7, u8, u9, u10, u11, u12, u13, u14, .int x48])), (ib, aB E (1500) (f))]) rfl ?_
      exact g_iret C F dX4_data_52 rfl (nz_b x49 (by omega)) (Nat.le_refl _) (Nat.le_refl _) (by have hnm := nM2 (lk f P) fr; have h9 := wOth_1 (b := lk f P) (fr := fr) (la := la) (by omega); exact ⟨_, _, rfl, Or.inr ⟨by omega, by omega, by omega⟩, rfl⟩)
    · replace e36 := bl1 e36 c39
      refine g_iload_n C dX4_data_42 1 rfl ?_
      refine g_goto C 49 dX4_data_43 (by decide) ?_
      refine g_callV C r mv_X4_54 dX4_data_49 (c_X4_bad g.l E m ib sz pl wr u0 u4 u5 u6 u7 u8 u9 u10 u11 u12 u13 u14 x) (wr := [(ib, aB E (1500) (f))]) (As := [.int x]) (rest := []) (Spl.at [1] [0] rfl rfl rfl) 0 rfl rfl rfl rfl (Nat.le_of_ble_eq_true rfl) (by decide) (Nat.le_refl _) (Nat.le_refl _) (fun v w h => ?_)
      obtain ⟨x49, rfl, e49, rfl⟩ := h
      change G E g [(ib, aB E (1500) (f)), (m, .inr (6, [u0, .ref ib, .int sz, .int pl, u4, u5, u6, u7, u8, u9, u10, u11, u12, u13, u14, .int x]))] _ _ _ _ [.int x49]
      refine g_perm [1, 0] rfl (ws' := [(m, .inr (6, [u0, .ref ib, .int sz, .int pl, u4, u5, u6, u7, u8, u9, u10, u11, u12, u13, u14, .int x])), (ib, aB E (1500) (f))]) rfl ?_
      exact g_iret C F dX4_data_52 rfl (nz_b x49 (by omega)) (Nat.le_refl _) (Nat.le_refl _) (by have hnm := nM2 (lk f P) fr; have h9 := wOth_1 (b := lk f P) (fr := fr) (la := la) (by omega); exact ⟨_, _, rfl, Or.inr ⟨by omega, by omega, by omega⟩, rfl⟩)
  refine g_aload_n C dX4_data_6 1 rfl ?_
  refine g_iload_n C dX4_data_7 2 rfl ?_
  refine g_callV C r mv_X4_50 dX4_data_8 (c_X4_look g.l E m ib f sz pl wr u0 u4 u5 u6 u7 u8 u9 u10 u11 u12 u13 u14 S P x (fr) hS hP hPS hSm (by omega) (by omega)) (wr := []) (As := [.int x]) (rest := []) (Spl.at [] [0, 1] rfl rfl rfl) 0 rfl rfl rfl rfl (Nat.le_of_ble_eq_true rfl) (by decide) (Nat.le_refl _) (Nat.le_refl _) (fun v w h => ?_)
  obtain ⟨x8, rfl, e8, rfl⟩ := h
  change G E g [(m, .inr (6, [u0, .ref ib, .int sz, .int pl, u4, u5, u6, u7, u8, u9, u10, u11, u12, u13, u14, .int wr])), (ib, aB E (1500) (f))] _ _ _ _ [.int x8]
  have hbx8 := hb8 (fr)
  refine g_callS C r ms_X4_58 dX4_data_11 (c_X4_isMark g.l E x8) (wr := [(m, .inr (6, [u0, .ref ib, .int sz, .int pl, u4, u5, u6, u7, u8, u9, u10, u11, u12, u13, u14, .int wr])), (ib, aB E (1500) (f))]) (As := [.int x8]) (rest := []) (Spl.at [0, 1] [] rfl rfl rfl) rfl (Nat.le_of_ble_eq_true rfl) (by decide) (Nat.le_refl _) (Nat.le_refl _) (fun v w h => ?_)
  obtain ⟨x11, rfl, e11, rfl⟩ := h
  change G E g [(m, .inr (6, [u0, .ref ib, .int sz, .int pl, u4, u5, u6, u7, u8, u9, u10, u11, u12, u13, u14, .int wr])), (ib, aB E (1500) (f))] _ _ _ _ [.int x11]
  refine g_if_ne C 30 dX4_data_14 (by decide) (fun c14 => ?_) (fun c14 => ?_)
  · replace e11 := bl1 e11 c14
    refine g_lv [1, 2, 3, 0] (lv' := [(0, .ref m), (1, .int x), (2, .int y), (3, .int x4)]) rfl ?_
    exact J30 trivial (by have hnm := nM2 (lk f P) fr; omega)
  · replace e11 := bl0 e11 c14
    refine g_aload_n C dX4_data_17 1 rfl ?_
    refine g_iload_n C dX4_data_18 2 rfl ?_
    refine g_iconst C dX4_data_19 (by decide) (fun x19 e19 => ?_)
    refine g_iadd C dX4_data_20 (by omega) (fun x20 e20 => ?_)
    refine g_callV C r mv_X4_50 dX4_data_21 (c_X4_look g.l E m ib f sz pl wr u0 u4 u5 u6 u7 u8 u9 u10 u11 u12 u13 u14 S P x20 (fr + 1) hS hP hPS hSm (by omega) (by omega)) (wr := []) (As := [.int x20]) (rest := []) (Spl.at [] [0, 1] rfl rfl rfl) 0 rfl rfl rfl rfl (Nat.le_of_ble_eq_true rfl) (by decide) (Nat.le_refl _) (Nat.le_refl _) (fun v w h => ?_)
    obtain ⟨x21, rfl, e21, rfl⟩ := h
    change G E g [(m, .inr (6, [u0, .ref ib, .int sz, .int pl, u4, u5, u6, u7, u8, u9, u10, u11, u12, u13, u14, .int wr])), (ib, aB E (1500) (f))] _ _ _ _ [.int x21]
    have hbx21 := hb8 (fr + 1)
    refine g_callS C r ms_X4_58 dX4_data_24 (c_X4_isMark g.l E x21) (wr := [(m, .inr (6, [u0, .ref ib, .int sz, .int pl, u4, u5, u6, u7, u8, u9, u10, u11, u12, u13, u14, .int wr])), (ib, aB E (1500) (f))]) (As := [.int x21]) (rest := []) (Spl.at [0, 1] [] rfl rfl rfl) rfl (Nat.le_of_ble_eq_true rfl) (by decide) (Nat.le_refl _) (Nat.le_refl _) (fun v w h => ?_)
    obtain ⟨x24, rfl, e24, rfl⟩ := h
    change G E g [(m, .inr (6, [u0, .ref ib, .int sz, .int pl, u4, u5, u6, u7, u8, u9, u10, u11, u12, u13, u14, .int wr])), (ib, aB E (1500) (f))] _ _ _ _ [.int x24]
    refine g_if_eq C 53 dX4_data_27 (by decide) (fun c27 => ?_) (fun c27 => ?_)
    · replace e24 := bl0 e24 c27
      have hfl : fr + 2 ≤ la := by omega
      have hx4 : x4.toInt = (la : Int) := by omega
      have hfr1 : lk f P (fr + 1) ≠ 31 := by omega
      have hnm1 : nM (lk f P) fr 2 = -1 := by have hnm := nM2 (lk f P) fr; omega
      clear e2 e3 e4 e8 hbx8 e11 c14 e21 hbx21 e24 c27 e19 e20 hy hn1 hla J30
      refine g_iload_n C dX4_data_53 2 rfl ?_
      refine g_iconst C dX4_data_54 (by decide) (fun x54 e54 => ?_)
      refine g_iadd C dX4_data_55 (by omega) (fun x55 e55 => ?_)
      refine g_istore C dX4_data_56 (by rw [hN]; decide) (lv' := [(4, .int x55), (3, .int x4), (0, .ref m), (1, .int x), (2, .int y)]) rfl ?_
      have loop58 : ∀ (nn : Nat) (n4 : Int32) (k : Nat) (hm : la - k < nn) (hk : fr + 2 ≤ k ∧ k ≤ la) (hp : n4.toInt = (k : Int)) (hk1 : lk f P (k - 1) ≠ 31) (hk0 : k = fr + 2 ∨ k = la ∨ lk f P k = 31) (hq : k ≠ fr + 2 → ¬ (fr + 2 < la ∧ lk f P (fr + 2) ≠ 31)) (hn : fI (badO (lk f P) la) (fr + 2) (la - (fr + 2)) = fI (badO (lk f P) la) k (la - k)), G E g [(m, .inr (6, [u0, .ref ib, .int sz, .int pl, u4, u5, u6, u7, u8, u9, u10, u11, u12, u13, u14, .int wr])), (ib, aB E (1500) (f))] 0 0 58 [(0, .ref m), (1, .int x), (2, .int y), (3, .int x4), (4, .int n4)] [] := by
        intro nn
        induction nn with
        | zero => intro n4 k hm hk hp hk1 hk0 hq hn; omega
        | succ nn ih58 =>
          intro n4 k hm hk hp hk1 hk0 hq hn
          have hkf : k = fr + 2 → lk f P k = lk f P (fr + 2) := fun h => by rw [h]
          refine g_iload C dX4_data_58 4 rfl ?_
          refine g_iload_n C dX4_data_60 3 rfl ?_
          refine g_icmp_ge C 158 dX4_data_61 (by decide) (fun c61 => ?_) (fun c61 => ?_)
          · refine g_aload_n C dX4_data_158 0 rfl ?_
            refine g_iload_n C dX4_data_159 3 rfl ?_
            refine g_bipush C dX4_data_160 (by decide) (fun x160 e160 => ?_)
            refine g_callV C r mv_X4_61 dX4_data_162 (c_X4_must g.l E m ib f sz pl wr u0 u4 u5 u6 u7 u8 u9 u10 u11 u12 u13 u14 S P x4 x160 (la) hS hP hPS hSm (by omega) (by omega)) (wr := []) (As := [.int x4, .int x160]) (rest := []) (Spl.at [] [0, 1] rfl rfl rfl) 0 rfl rfl rfl rfl (Nat.le_of_ble_eq_true rfl) (by decide) (Nat.le_refl _) (Nat.le_refl _) (fun v w h => ?_)
            obtain ⟨x162, w162, rfl, e162, rfl⟩ := h
            change G E g [(m, .inr (6, [u0, .ref ib, .int sz, .int pl, u4, u5, u6, u7, u8, u9, u10, u11, u12, u13, u14, .int w162])), (ib, aB E (1500) (f))] _ _ _ _ [.int x162]
            exact g_iret C F dX4_data_165 rfl (nz_b x162 (by omega)) (Nat.le_refl _) (Nat.le_refl _) (by have h8 : fI (badO (lk f P) la) k (la - k) = -1 := fI_zero (by omega); have h9 := wOth_4 (b := lk f P) (fr := fr) (la := la) (by omega) (by omega) (hn.trans h8); have h7 := wEnd_d (lk f P) la; rcases e162 with ⟨a1, a2, a3⟩ | ⟨a1, a2, a3⟩; exact ⟨_, _, rfl, Or.inl ⟨by omega, by omega, a3⟩, rfl⟩; exact ⟨_, _, rfl, Or.inr ⟨by omega, by omega, by omega⟩, rfl⟩)
          · refine g_aload_n C dX4_data_64 0 rfl ?_
            refine g_iload C dX4_data_65 4 rfl ?_
            refine g_callV C r mv_X4_50 dX4_data_67 (c_X4_look g.l E m ib f sz pl wr u0 u4 u5 u6 u7 u8 u9 u10 u11 u12 u13 u14 S P n4 (k) hS hP hPS hSm (by omega) (by omega)) (wr := []) (As := [.int n4]) (rest := []) (Spl.at [] [0, 1] rfl rfl rfl) 0 rfl rfl rfl rfl (Nat.le_of_ble_eq_true rfl) (by decide) (Nat.le_refl _) (Nat.le_refl _) (fun v w h => ?_)
            obtain ⟨x67, rfl, e67, rfl⟩ := h
            change G E g [(m, .inr (6, [u0, .ref ib, .int sz, .int pl, u4, u5, u6, u7, u8, u9, u10, u11, u12, u13, u14, .int wr])), (ib, aB E (1500) (f))] _ _ _ _ [.int x67]
            have hbx67 := hb8 (k)
            refine g_bipush C dX4_data_70 (by decide) (fun x70 e70 => ?_)
            refine g_icmp_ne C 83 dX4_data_72 (by decide) (fun c72 => ?_) (fun c72 => ?_)
            · refine g_aload_n C dX4_data_83 0 rfl ?_
              refine g_iload C dX4_data_84 4 rfl ?_
              refine g_callV C r mv_X4_54 dX4_data_86 (c_X4_bad g.l E m ib sz pl wr u0 u4 u5 u6 u7 u8 u9 u10 u11 u12 u13 u14 n4) (wr := [(ib, aB E (1500) (f))]) (As := [.int n4]) (rest := []) (Spl.at [1] [0] rfl rfl rfl) 0 rfl rfl rfl rfl (Nat.le_of_ble_eq_true rfl) (by decide) (Nat.le_refl _) (Nat.le_refl _) (fun v w h => ?_)
              obtain ⟨x86, rfl, e86, rfl⟩ := h
              change G E g [(ib, aB E (1500) (f)), (m, .inr (6, [u0, .ref ib, .int sz, .int pl, u4, u5, u6, u7, u8, u9, u10, u11, u12, u13, u14, .int n4]))] _ _ _ _ [.int x86]
              refine g_perm [1, 0] rfl (ws' := [(m, .inr (6, [u0, .ref ib, .int sz, .int pl, u4, u5, u6, u7, u8, u9, u10, u11, u12, u13, u14, .int n4])), (ib, aB E (1500) (f))]) rfl ?_
              exact g_iret C F dX4_data_89 rfl (nz_b x86 (by omega)) (Nat.le_refl _) (Nat.le_refl _) (by have hkk : k = fr + 2 := (by omega); have h9 := wOth_2 (b := lk f P) (fr := fr) (la := la) hnm1 (by have := hkf hkk; omega); exact ⟨_, _, rfl, Or.inr ⟨by omega, by omega, by omega⟩, rfl⟩)
            · refine g_iload C dX4_data_75 4 rfl ?_
              refine g_iconst C dX4_data_77 (by decide) (fun x77 e77 => ?_)
              refine g_iadd C dX4_data_78 (by omega) (fun x78 e78 => ?_)
              refine g_iload_n C dX4_data_79 3 rfl ?_
              refine g_icmp_ne C 90 dX4_data_80 (by decide) (fun c80 => ?_) (fun c80 => ?_)
              · refine g_aload_n C dX4_data_90 0 rfl ?_
                refine g_iload C dX4_data_91 4 rfl ?_
                refine g_iconst C dX4_data_93 (by decide) (fun x93 e93 => ?_)
                refine g_iadd C dX4_data_94 (by omega) (fun x94 e94 => ?_)
                refine g_callV C r mv_X4_50 dX4_data_95 (c_X4_look g.l E m ib f sz pl wr u0 u4 u5 u6 u7 u8 u9 u10 u11 u12 u13 u14 S P x94 (k + 1) hS hP hPS hSm (by omega) (by omega)) (wr := []) (As := [.int x94]) (rest := []) (Spl.at [] [0, 1] rfl rfl rfl) 0 rfl rfl rfl rfl (Nat.le_of_ble_eq_true rfl) (by decide) (Nat.le_refl _) (Nat.le_refl _) (fun v w h => ?_)
                obtain ⟨x95, rfl, e95, rfl⟩ := h
                change G E g [(m, .inr (6, [u0, .ref ib, .int sz, .int pl, u4, u5, u6, u7, u8, u9, u10, u11, u12, u13, u14, .int wr])), (ib, aB E (1500) (f))] _ _ _ _ [.int x95]
                have hbx95 := hb8 (k + 1)
                refine g_callS C r ms_X4_58 dX4_data_98 (c_X4_isMark g.l E x95) (wr := [(m, .inr (6, [u0, .ref ib, .int sz, .int pl, u4, u5, u6, u7, u8, u9, u10, u11, u12, u13, u14, .int wr])), (ib, aB E (1500) (f))]) (As := [.int x95]) (rest := []) (Spl.at [0, 1] [] rfl rfl rfl) rfl (Nat.le_of_ble_eq_true rfl) (by decide) (Nat.le_refl _) (Nat.le_refl _) (fun v w h => ?_)
                obtain ⟨x98, rfl, e98, rfl⟩ := h
                change G E g [(m, .inr (6, [u0, .ref ib, .int sz, .int pl, u4, u5, u6, u7, u8, u9, u10, u11, u12, u13, u14, .int wr])), (ib, aB E (1500) (f))] _ _ _ _ [.int x98]
                refine g_if_eq C 113 dX4_data_101 (by decide) (fun c101 => ?_) (fun c101 => ?_)
                · replace e98 := bl0 e98 c101
                  refine g_iinc C dX4_data_113 4 rfl (by rw [hN]; decide) (by decide) (by omega) (fun x113 e113 => ?_)
                  refine g_lvE (lv' := [(4, .int x113), (0, .ref m), (1, .int x), (2, .int y), (3, .int x4)]) rfl ?_
                  have loop116 : ∀ (nn : Nat) (m4 : Int32) (j : Nat) (hm : la - j < nn) (hj : k + 2 ≤ j ∧ j ≤ la ∧ fr + 2 ≤ k) (hpj : m4.toInt = (j : Int)) (hj1 : lk f P (j - 1) ≠ 31) (hqj : ¬ (fr + 2 < la ∧ lk f P (fr + 2) ≠ 31)) (hnj : fI (badO (lk f P) la) (fr + 2) (la - (fr + 2)) = fI (badO (lk f P) la) j (la - j)), G E g [(m, .inr (6, [u0, .ref ib, .int sz, .int pl, u4, u5, u6, u7, u8, u9, u10, u11, u12, u13, u14, .int wr])), (ib, aB E (1500) (f))] 0 0 116 [(0, .ref m), (1, .int x), (2, .int y), (3, .int x4), (4, .int m4)] [] := by
                    intro nn
                    induction nn with
                    | zero => intro m4 j hm hj hpj hj1 hqj hnj; omega
                    | succ nn ih116 =>
                      intro m4 j hm hj hpj hj1 hqj hnj
                      clear hq hkf hk0 hk1 hn hp hk
                      refine g_iload C dX4_data_116 4 rfl ?_
                      refine g_iload_n C dX4_data_118 3 rfl ?_
                      refine g_icmp_ge C 58 dX4_data_119 (by decide) (fun c119 => ?_) (fun c119 => ?_)
                      · refine g_lv [0, 1, 2, 3, 4] (lv' := [(0, .ref m), (1, .int x), (2, .int y), (3, .int x4), (4, .int m4)]) rfl ?_
                        exact ih58 (m4) (j) (by omega) (by omega) (by omega) (by exact hj1) (by exact Or.inr (Or.inl (by omega))) (by exact fun _ => hqj) (by exact hnj)
                      · refine g_aload_n C dX4_data_122 0 rfl ?_
                        refine g_iload C dX4_data_123 4 rfl ?_
                        refine g_callV C r mv_X4_50 dX4_data_125 (c_X4_look g.l E m ib f sz pl wr u0 u4 u5 u6 u7 u8 u9 u10 u11 u12 u13 u14 S P m4 (j) hS hP hPS hSm (by omega) (by omega)) (wr := []) (As := [.int m4]) (rest := []) (Spl.at [] [0, 1] rfl rfl rfl) 0 rfl rfl rfl rfl (Nat.le_of_ble_eq_true rfl) (by decide) (Nat.le_refl _) (Nat.le_refl _) (fun v w h => ?_)
                        obtain ⟨x125, rfl, e125, rfl⟩ := h
                        change G E g [(m, .inr (6, [u0, .ref ib, .int sz, .int pl, u4, u5, u6, u7, u8, u9, u10, u11, u12, u13, u14, .int wr])), (ib, aB E (1500) (f))] _ _ _ _ [.int x125]
                        have hbx125 := hb8 (j)
                        refine g_bipush C dX4_data_128 (by decide) (fun x128 e128 => ?_)
                        refine g_icmp_eq C 58 dX4_data_130 (by decide) (fun c130 => ?_) (fun c130 => ?_)
                        · refine g_lv [0, 1, 2, 3, 4] (lv' := [(0, .ref m), (1, .int x), (2, .int y), (3, .int x4), (4, .int m4)]) rfl ?_
                          exact ih58 (m4) (j) (by omega) (by omega) (by omega) (by exact hj1) (by exact Or.inr (Or.inr (by omega))) (by exact fun _ => hqj) (by exact hnj)
                        · refine g_aload_n C dX4_data_133 0 rfl ?_
                          refine g_iload C dX4_data_134 4 rfl ?_
                          refine g_callV C r mv_X4_50 dX4_data_136 (c_X4_look g.l E m ib f sz pl wr u0 u4 u5 u6 u7 u8 u9 u10 u11 u12 u13 u14 S P m4 (j) hS hP hPS hSm (by omega) (by omega)) (wr := []) (As := [.int m4]) (rest := []) (Spl.at [] [0, 1] rfl rfl rfl) 0 rfl rfl rfl rfl (Nat.le_of_ble_eq_true rfl) (by decide) (Nat.le_refl _) (Nat.le_refl _) (fun v w h => ?_)
                          obtain ⟨x136, rfl, e136, rfl⟩ := h
                          change G E g [(m, .inr (6, [u0, .ref ib, .int sz, .int pl, u4, u5, u6, u7, u8, u9, u10, u11, u12, u13, u14, .int wr])), (ib, aB E (1500) (f))] _ _ _ _ [.int x136]
                          have hbx136 := hb8 (j)
                          refine g_callS C r ms_X4_58 dX4_data_139 (c_X4_isMark g.l E x136) (wr := [(m, .inr (6, [u0, .ref ib, .int sz, .int pl, u4, u5, u6, u7, u8, u9, u10, u11, u12, u13, u14, .int wr])), (ib, aB E (1500) (f))]) (As := [.int x136]) (rest := []) (Spl.at [0, 1] [] rfl rfl rfl) rfl (Nat.le_of_ble_eq_true rfl) (by decide) (Nat.le_refl _) (Nat.le_refl _) (fun v w h => ?_)
                          obtain ⟨x139, rfl, e139, rfl⟩ := h
                          change G E g [(m, .inr (6, [u0, .ref ib, .int sz, .int pl, u4, u5, u6, u7, u8, u9, u10, u11, u12, u13, u14, .int wr])), (ib, aB E (1500) (f))] _ _ _ _ [.int x139]
                          refine g_if_eq C 152 dX4_data_142 (by decide) (fun c142 => ?_) (fun c142 => ?_)
                          · replace e139 := bl0 e139 c142
                            refine g_iinc C dX4_data_152 4 rfl (by rw [hN]; decide) (by decide) (by omega) (fun x152 e152 => ?_)
                            refine g_lvE (lv' := [(4, .int x152), (0, .ref m), (1, .int x), (2, .int y), (3, .int x4)]) rfl ?_
                            refine g_goto C 116 dX4_data_155 (by decide) ?_
                            refine g_lv [1, 2, 3, 4, 0] (lv' := [(0, .ref m), (1, .int x), (2, .int y), (3, .int x4), (4, .int x152)]) rfl ?_
                            exact ih116 (x152) (j + 1) (by omega) (by omega) (by omega) (by show lk f P (j + 1 - 1) ≠ 31; rw [show j + 1 - 1 = j by omega]; omega) (by exact hqj) (by rw [hnj, fO_miss (by omega) (by omega), show la - j - 1 = la - (j + 1) by omega])
                          · replace e139 := bl1 e139 c142
                            refine g_aload_n C dX4_data_145 0 rfl ?_
                            refine g_iload C dX4_data_146 4 rfl ?_
                            refine g_callV C r mv_X4_54 dX4_data_148 (c_X4_bad g.l E m ib sz pl wr u0 u4 u5 u6 u7 u8 u9 u10 u11 u12 u13 u14 m4) (wr := [(ib, aB E (1500) (f))]) (As := [.int m4]) (rest := []) (Spl.at [1] [0] rfl rfl rfl) 0 rfl rfl rfl rfl (Nat.le_of_ble_eq_true rfl) (by decide) (Nat.le_refl _) (Nat.le_refl _) (fun v w h => ?_)
                            obtain ⟨x148, rfl, e148, rfl⟩ := h
                            change G E g [(ib, aB E (1500) (f)), (m, .inr (6, [u0, .ref ib, .int sz, .int pl, u4, u5, u6, u7, u8, u9, u10, u11, u12, u13, u14, .int m4]))] _ _ _ _ [.int x148]
                            refine g_perm [1, 0] rfl (ws' := [(m, .inr (6, [u0, .ref ib, .int sz, .int pl, u4, u5, u6, u7, u8, u9, u10, u11, u12, u13, u14, .int m4])), (ib, aB E (1500) (f))]) rfl ?_
                            exact g_iret C F dX4_data_151 rfl (nz_b x148 (by omega)) (Nat.le_refl _) (Nat.le_refl _) (by have h8 := fO_hit (b := lk f P) (last := la) (fr := j) (n := la - j) (by omega) (by omega) (by omega); have h9 := wOth_3 (b := lk f P) (fr := fr) (la := la) (by omega) (by omega) (hnj.trans h8) (by omega); exact ⟨_, _, rfl, Or.inr ⟨by omega, by omega, by omega⟩, rfl⟩)
                  refine g_lv [1, 2, 3, 4, 0] (lv' := [(0, .ref m), (1, .int x), (2, .int y), (3, .int x4), (4, .int x113)]) rfl ?_
                  exact loop116 _ (x113) (k + 2) (Nat.lt_succ_self _) (by omega) (by omega) (by show lk f P (k + 2 - 1) ≠ 31; rw [show k + 2 - 1 = k + 1 by omega]; omega) (by omega) (by rw [hn, fO_miss (by omega) (by omega), fO_miss (by omega) (by omega), show la - k - 1 - 1 = la - (k + 2) by omega])
                · replace e98 := bl1 e98 c101
                  refine g_aload_n C dX4_data_104 0 rfl ?_
                  refine g_iload C dX4_data_105 4 rfl ?_
                  refine g_iconst C dX4_data_107 (by decide) (fun x107 e107 => ?_)
                  refine g_iadd C dX4_data_108 (by omega) (fun x108 e108 => ?_)
                  refine g_callV C r mv_X4_54 dX4_data_109 (c_X4_bad g.l E m ib sz pl wr u0 u4 u5 u6 u7 u8 u9 u10 u11 u12 u13 u14 x108) (wr := [(ib, aB E (1500) (f))]) (As := [.int x108]) (rest := []) (Spl.at [1] [0] rfl rfl rfl) 0 rfl rfl rfl rfl (Nat.le_of_ble_eq_true rfl) (by decide) (Nat.le_refl _) (Nat.le_refl _) (fun v w h => ?_)
                  obtain ⟨x109, rfl, e109, rfl⟩ := h
                  change G E g [(ib, aB E (1500) (f)), (m, .inr (6, [u0, .ref ib, .int sz, .int pl, u4, u5, u6, u7, u8, u9, u10, u11, u12, u13, u14, .int x108]))] _ _ _ _ [.int x109]
                  refine g_perm [1, 0] rfl (ws' := [(m, .inr (6, [u0, .ref ib, .int sz, .int pl, u4, u5, u6, u7, u8, u9, u10, u11, u12, u13, u14, .int x108])), (ib, aB E (1500) (f))]) rfl ?_
                  exact g_iret C F dX4_data_112 rfl (nz_b x109 (by omega)) (Nat.le_refl _) (Nat.le_refl _) (by have h7 := fO_miss (b := lk f P) (last := la) (fr := k) (n := la - k) (by omega) (by omega); have h8 := fO_hit (b := lk f P) (last := la) (fr := k + 1) (n := la - k - 1) (by omega) (by show _ ∨ lk f P (k + 1 - 1) = 31 ∨ _; rw [show k + 1 - 1 = k by omega]; omega) (by omega); have h9 := wOth_3 (b := lk f P) (fr := fr) (la := la) (by omega) (by omega) (hn.trans (h7.trans h8)) (by omega); exact ⟨_, _, rfl, Or.inr ⟨by omega, by omega, by omega⟩, rfl⟩)
              · refine g_aload_n C dX4_data_83 0 rfl ?_
                refine g_iload C dX4_data_84 4 rfl ?_
                refine g_callV C r mv_X4_54 dX4_data_86 (c_X4_bad g.l E m ib sz pl wr u0 u4 u5 u6 u7 u8 u9 u10 u11 u12 u13 u14 n4) (wr := [(ib, aB E (1500) (f))]) (As := [.int n4]) (rest := []) (Spl.at [1] [0] rfl rfl rfl) 0 rfl rfl rfl rfl (Nat.le_of_ble_eq_true rfl) (by decide) (Nat.le_refl _) (Nat.le_refl _) (fun v w h => ?_)
                obtain ⟨x86, rfl, e86, rfl⟩ := h
                change G E g [(ib, aB E (1500) (f)), (m, .inr (6, [u0, .ref ib, .int sz, .int pl, u4, u5, u6, u7, u8, u9, u10, u11, u12, u13, u14, .int n4]))] _ _ _ _ [.int x86]
                refine g_perm [1, 0] rfl (ws' := [(m, .inr (6, [u0, .ref ib, .int sz, .int pl, u4, u5, u6, u7, u8, u9, u10, u11, u12, u13, u14, .int n4])), (ib, aB E (1500) (f))]) rfl ?_
                exact g_iret C F dX4_data_89 rfl (nz_b x86 (by omega)) (Nat.le_refl _) (Nat.le_refl _) (by have h8 := fO_hit (b := lk f P) (last := la) (fr := k) (n := la - k) (by omega) (by omega) (by omega); have h9 := wOth_3 (b := lk f P) (fr := fr) (la := la) hnm1 (by omega) (hn.trans h8) (by omega); exact ⟨_, _, rfl, Or.inr ⟨by omega, by omega, by omega⟩, rfl⟩)
      refine g_lv [2, 3, 4, 1, 0] (lv' := [(0, .ref m), (1, .int x), (2, .int y), (3, .int x4), (4, .int x55)]) rfl ?_
      exact loop58 _ (x55) (fr + 2) (Nat.lt_succ_self _) (by omega) (by omega) (by show lk f P (fr + 2 - 1) ≠ 31; rw [show fr + 2 - 1 = fr + 1 by omega]; exact hfr1) (by exact Or.inl rfl) (by intro h; exact absurd rfl h) (by rfl)
    · replace e24 := bl1 e24 c27
      refine g_lv [1, 2, 3, 0] (lv' := [(0, .ref m), (1, .int x), (2, .int y), (3, .int x4)]) rfl ?_
      exact J30 trivial (by have hnm := nM2 (lk f P) fr; omega)
