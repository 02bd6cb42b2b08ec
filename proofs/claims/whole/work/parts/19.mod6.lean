set_option maxHeartbeats 1000000 in
set_option maxRecDepth 10000 in
theorem c_X4_field (l : Launch) (E : GE) (m tb : Nat) (tf sf yf : Nat → Int32) (te nf : Int32) (fl : FL) (t0 x y : Int32) (z1 z2 z3 z5 z7 z8 z10 z11 z12 z13 z14 z15 : Value) (hM : MPr te nf tf sf yf fl) (hF : FW fl) : Ctr l E yX4_field cX4_field 5 (some .int) 0 (0) (0) [.ref m, .int x, .int y] [(m, .inr (6, [.int t0, z1, z2, z3, .int te, z5, .ref tb, z7, z8, .int nf, z10, z11, z12, z13, z14, z15])), (tb, aI E (60) (tf))] (fun v w => ∃ (r t : Int32), v = some (.int r) ∧ t.toInt = 0 ∧ (r.toInt = fF fl x.toInt y.toInt fl.length 0 0) ∧ w = [(m, .inr (6, [.int t, z1, z2, z3, .int te, z5, .ref tb, z7, z8, .int nf, z10, z11, z12, z13, z14, z15])), (tb, aI E (60) (tf))]) := by
  refine Ctr.intro (by decide) (Nat.le_of_ble_eq_true rfl) (fun g hgl hN C r F hi => ?_)
  subst hgl
  have hte := hM.te
  have hin : te.toInt ≠ 0 → nf.toInt = (fl.length : Int) := fun h => (hM.in h).1
  have hno := hM.no
  have hnf := hM.nf hF
  have hfl := hF.1
  change G E g [(m, .inr (6, [.int t0, z1, z2, z3, .int te, z5, .ref tb, z7, z8, .int nf, z10, z11, z12, z13, z14, z15])), (tb, aI E (60) (tf))] 0 0 0 [(0, .ref m), (1, .int x), (2, .int y)] []
  refine g_aload_n C dX4_field_0 0 rfl ?_
  refine g_iconst C dX4_field_1 (by decide) (fun x1 e1 => ?_)
  refine gp_X4_37 C 0 rfl (Nat.le_of_ble_eq_true rfl) rfl rfl dX4_field_2 ?_
  change G E g [(m, .inr (6, [.int x1, z1, z2, z3, .int te, z5, .ref tb, z7, z8, .int nf, z10, z11, z12, z13, z14, z15])), (tb, aI E (60) (tf))] _ _ _ _ _
  refine g_iconst C dX4_field_5 (by decide) (fun x5 e5 => ?_)
  refine g_istore_n C dX4_field_6 (by rw [hN]; decide) (lv' := [(3, .int x5), (0, .ref m), (1, .int x), (2, .int y)]) rfl ?_
  refine g_iconst C dX4_field_7 (by decide) (fun x7 e7 => ?_)
  refine g_istore C dX4_field_8 (by rw [hN]; decide) (lv' := [(4, .int x7), (3, .int x5), (0, .ref m), (1, .int x), (2, .int y)]) rfl ?_
  have loop10 : ∀ (nn : Nat) (n3 : Int32) (n4 : Int32) (k : Nat) (hm : nf.toInt.toNat - k < nn) (hk : (k : Int) ≤ nf.toInt) (hp : n4.toInt = (k : Int) + 1) (hb : 0 ≤ n3.toInt ∧ n3.toInt ≤ (k : Int)) (hn : te.toInt ≠ 0 → fF fl x.toInt y.toInt fl.length 0 0 = fF fl x.toInt y.toInt (fl.length - k) k n3.toInt), G E g [(m, .inr (6, [.int x1, z1, z2, z3, .int te, z5, .ref tb, z7, z8, .int nf, z10, z11, z12, z13, z14, z15])), (tb, aI E (60) (tf))] 0 0 10 [(0, .ref m), (1, .int x), (2, .int y), (3, .int n3), (4, .int n4)] [] := by
    intro nn
    induction nn with
    | zero => intro n3 n4 k hm hk hp hb hn; omega
    | succ nn ih10 =>
      intro n3 n4 k hm hk hp hb hn
      refine g_iload C dX4_field_10 4 rfl ?_
      refine g_aload_n C dX4_field_12 0 rfl ?_
      refine gf_X4_88 C 0 rfl rfl dX4_field_13 ?_
      refine g_icmp_gt C 60 dX4_field_16 (by decide) (fun c16 => ?_) (fun c16 => ?_)
      · refine g_iconst C dX4_field_60 (by decide) (fun x60 e60 => ?_)
        exact g_iret C F dX4_field_61 rfl rfl (Nat.le_refl _) (Nat.le_refl _) (by refine ⟨_, _, rfl, e1, ?_, rfl⟩; by_cases h0 : te.toInt = 0; rw [fF_zero (hM.no h0)]; omega; have := (hM.in h0).1; rw [hn h0, fF_zero (by omega)]; omega)
      · refine g_aload_n C dX4_field_19 0 rfl ?_
        refine gf_X4_91 C 0 rfl rfl dX4_field_20 ?_
        refine g_if_eq C 60 dX4_field_23 (by decide) (fun c23 => ?_) (fun c23 => ?_)
        · refine g_iconst C dX4_field_60 (by decide) (fun x60 e60 => ?_)
          exact g_iret C F dX4_field_61 rfl rfl (Nat.le_refl _) (Nat.le_refl _) (by refine ⟨_, _, rfl, e1, ?_, rfl⟩; rw [fF_zero (hM.no (by omega))]; omega)
        · refine g_iload_n C dX4_field_26 2 rfl ?_
          refine g_if_lt C 60 dX4_field_27 (by decide) (fun c27 => ?_) (fun c27 => ?_)
          · refine g_iconst C dX4_field_60 (by decide) (fun x60 e60 => ?_)
            exact g_iret C F dX4_field_61 rfl rfl (Nat.le_refl _) (Nat.le_refl _) (by refine ⟨_, _, rfl, e1, ?_, rfl⟩; rw [fF_neg (by omega) _ _ _ (by omega)]; omega)
          · obtain ⟨hn1, hMF⟩ := hM.in (by omega)
            have hT := (hMF k (by omega)).1
            refine g_aload_n C dX4_field_30 0 rfl ?_
            refine gf_X4_16 C 0 rfl rfl dX4_field_31 ?_
            refine g_iload C dX4_field_34 4 rfl ?_
            refine g_iconst C dX4_field_36 (by decide) (fun x36 e36 => ?_)
            refine g_isub C dX4_field_37 (by omega) (fun x37 e37 => ?_)
            refine g_iaload C 1 rfl dX4_field_38 (k) (by omega) (by omega) (fun x38 e38 => ?_)
            have t38 := congrArg Int32.toInt e38
            refine g_iload_n C dX4_field_39 1 rfl ?_
            refine g_icmp_ne C 54 dX4_field_40 (by decide) (fun c40 => ?_) (fun c40 => ?_)
            · refine g_iinc C dX4_field_54 4 rfl (by rw [hN]; decide) (by decide) (by omega) (fun x54 e54 => ?_)
              refine g_lvE (lv' := [(4, .int x54), (0, .ref m), (1, .int x), (2, .int y), (3, .int n3)]) rfl ?_
              refine g_goto C 10 dX4_field_57 (by decide) ?_
              refine g_lv [1, 2, 3, 4, 0] (lv' := [(0, .ref m), (1, .int x), (2, .int y), (3, .int n3), (4, .int x54)]) rfl ?_
              exact ih10 (n3) (x54) (k + 1) (by omega) (by omega) (by omega) (by omega) (by intro h; rw [hn h, fF_no (by omega) (by omega), show fl.length - k - 1 = fl.length - (k + 1) by omega])
            · refine g_iload_n C dX4_field_43 3 rfl ?_
              refine g_iload_n C dX4_field_44 2 rfl ?_
              refine g_icmp_ne C 51 dX4_field_45 (by decide) (fun c45 => ?_) (fun c45 => ?_)
              · refine g_iinc C dX4_field_51 3 rfl (by rw [hN]; decide) (by decide) (by omega) (fun x51 e51 => ?_)
                refine g_lvE (lv' := [(3, .int x51), (0, .ref m), (1, .int x), (2, .int y), (4, .int n4)]) rfl ?_
                refine g_iinc C dX4_field_54 4 rfl (by rw [hN]; decide) (by decide) (by omega) (fun x54 e54 => ?_)
                refine g_lvE (lv' := [(4, .int x54), (3, .int x51), (0, .ref m), (1, .int x), (2, .int y)]) rfl ?_
                refine g_goto C 10 dX4_field_57 (by decide) ?_
                refine g_lv [2, 3, 4, 1, 0] (lv' := [(0, .ref m), (1, .int x), (2, .int y), (3, .int x51), (4, .int x54)]) rfl ?_
                exact ih10 (x51) (x54) (k + 1) (by omega) (by omega) (by omega) (by omega) (by intro h; rw [hn h, fF_go (by omega) (by omega) (by omega), ← e51, show fl.length - k - 1 = fl.length - (k + 1) by omega])
              · refine g_iload C dX4_field_48 4 rfl ?_
                exact g_iret C F dX4_field_50 rfl rfl (Nat.le_refl _) (Nat.le_refl _) (by refine ⟨_, _, rfl, e1, ?_, rfl⟩; rw [hn (by omega), fF_yes (by omega) (by omega) (by omega)]; omega)
  refine g_lv [2, 3, 4, 1, 0] (lv' := [(0, .ref m), (1, .int x), (2, .int y), (3, .int x5), (4, .int x7)]) rfl ?_
  exact loop10 _ (x5) (x7) (0) (Nat.lt_succ_self _) (by omega) (by omega) (by omega) (by intro _; rw [e5]; rfl)
set_option maxHeartbeats 1000000 in
set_option maxRecDepth 10000 in
theorem c_X4_indicator (l : Launch) (E : GE) (m tb yb : Nat) (tf sf yf : Nat → Int32) (te nf : Int32) (fl : FL) (t0 x y : Int32) (z1 z2 z3 z5 z8 z10 z11 z12 z13 z14 z15 : Value) (hM : MPr te nf tf sf yf fl) (hF : FW fl) : Ctr l E yX4_indicator cX4_indicator 3 (some .int) 1 (0) (0) [.ref m, .int x, .int y] [(m, .inr (6, [.int t0, z1, z2, z3, .int te, z5, .ref tb, .ref yb, z8, .int nf, z10, z11, z12, z13, z14, z15])), (tb, aI E (60) (tf)), (yb, aB E (114000) (yf))] (fun v w => ∃ (r t : Int32), v = some (.int r) ∧ t.toInt = 0 ∧ (((0 < x.toInt ∧ x.toInt ≤ (fl.length : Int) ∧ 9 < fT fl (x.toInt.toNat - 1) ∧ 0 ≤ y.toInt ∧ y.toInt ≤ 1) ∧ r.toInt = ((fB fl (x.toInt.toNat - 1)).getD y.toInt.toNat 0 : Int)) ∨ (¬ (0 < x.toInt ∧ x.toInt ≤ (fl.length : Int) ∧ 9 < fT fl (x.toInt.toNat - 1) ∧ 0 ≤ y.toInt ∧ y.toInt ≤ 1) ∧ r.toInt = -1)) ∧ w = [(m, .inr (6, [.int t, z1, z2, z3, .int te, z5, .ref tb, .ref yb, z8, .int nf, z10, z11, z12, z13, z14, z15])), (tb, aI E (60) (tf)), (yb, aB E (114000) (yf))]) := by
  refine Ctr.intro (by decide) (Nat.le_of_ble_eq_true rfl) (fun g hgl hN C r F hi => ?_)
  subst hgl
  have hte := hM.te
  have hin : te.toInt ≠ 0 → nf.toInt = (fl.length : Int) := fun h => (hM.in h).1
  have hno := hM.no
  have hnf := hM.nf hF
  have hfl := hF.1
  change G E g [(m, .inr (6, [.int t0, z1, z2, z3, .int te, z5, .ref tb, .ref yb, z8, .int nf, z10, z11, z12, z13, z14, z15])), (tb, aI E (60) (tf)), (yb, aB E (114000) (yf))] 0 0 0 [(0, .ref m), (1, .int x), (2, .int y)] []
  refine g_aload_n C dX4_indicator_0 0 rfl ?_
  refine g_iconst C dX4_indicator_1 (by decide) (fun x1 e1 => ?_)
  refine gp_X4_37 C 0 rfl (Nat.le_of_ble_eq_true rfl) rfl rfl dX4_indicator_2 ?_
  change G E g [(m, .inr (6, [.int x1, z1, z2, z3, .int te, z5, .ref tb, .ref yb, z8, .int nf, z10, z11, z12, z13, z14, z15])), (tb, aI E (60) (tf)), (yb, aB E (114000) (yf))] _ _ _ _ _
  refine g_aload_n C dX4_indicator_5 0 rfl ?_
  refine g_iload_n C dX4_indicator_6 1 rfl ?_
  refine g_callV C r mv_X4_101 dX4_indicator_7 (c_X4_isField g.l E m te nf x (.int x1) (z1) (z2) (z3) (z5) (.ref tb) (.ref yb) (z8) (z10) (z11) (z12) (z13) (z14) (z15)) (wr := [(tb, aI E (60) (tf)), (yb, aB E (114000) (yf))]) (As := [.int x]) (rest := []) (Spl.at [1, 2] [0] rfl rfl rfl) 0 rfl rfl rfl rfl (Nat.le_of_ble_eq_true rfl) (by decide) (Nat.le_refl _) (Nat.le_refl _) (fun v w h => ?_)
  obtain ⟨x7, rfl, e7, rfl⟩ := h
  change G E g [(tb, aI E (60) (tf)), (yb, aB E (114000) (yf)), (m, .inr (6, [.int x1, z1, z2, z3, .int te, z5, .ref tb, .ref yb, z8, .int nf, z10, z11, z12, z13, z14, z15]))] _ _ _ _ [.int x7]
  refine g_if_eq C 35 dX4_indicator_10 (by decide) (fun c10 => ?_) (fun c10 => ?_)
  · replace e7 := bl0 e7 c10
    refine g_iconst C dX4_indicator_35 (by decide) (fun x35 e35 => ?_)
    refine g_goto C 45 dX4_indicator_36 (by decide) ?_
    refine g_perm [2, 0, 1] rfl (ws' := [(m, .inr (6, [.int x1, z1, z2, z3, .int te, z5, .ref tb, .ref yb, z8, .int nf, z10, z11, z12, z13, z14, z15])), (tb, aI E (60) (tf)), (yb, aB E (114000) (yf))]) rfl ?_
    exact g_iret C F dX4_indicator_45 rfl rfl (Nat.le_refl _) (Nat.le_refl _) (by exact ⟨_, _, rfl, e1, Or.inr ⟨by omega, by omega⟩, rfl⟩)
  · replace e7 := bl1 e7 c10
    obtain ⟨hn1, hMF⟩ := hM.in e7.1
    obtain ⟨hT, hL, hBs⟩ := hMF (x.toInt.toNat - 1) (by omega)
    obtain ⟨hW1, hW2, hW3, hW4, hW5⟩ := hF.2 (x.toInt.toNat - 1) (by omega)
    refine g_aload_n C dX4_indicator_13 0 rfl ?_
    refine gf_X4_16 C 2 rfl rfl dX4_indicator_14 ?_
    refine g_iload_n C dX4_indicator_17 1 rfl ?_
    refine g_iconst C dX4_indicator_18 (by decide) (fun x18 e18 => ?_)
    refine g_isub C dX4_indicator_19 (by omega) (fun x19 e19 => ?_)
    refine g_iaload C 0 rfl dX4_indicator_20 (x.toInt.toNat - 1) (by omega) (by omega) (fun x20 e20 => ?_)
    have t20 := congrArg Int32.toInt e20
    refine g_bipush C dX4_indicator_21 (by decide) (fun x21 e21 => ?_)
    refine g_icmp_lt C 35 dX4_indicator_23 (by decide) (fun c23 => ?_) (fun c23 => ?_)
    · refine g_iconst C dX4_indicator_35 (by decide) (fun x35 e35 => ?_)
      refine g_goto C 45 dX4_indicator_36 (by decide) ?_
      refine g_perm [2, 0, 1] rfl (ws' := [(m, .inr (6, [.int x1, z1, z2, z3, .int te, z5, .ref tb, .ref yb, z8, .int nf, z10, z11, z12, z13, z14, z15])), (tb, aI E (60) (tf)), (yb, aB E (114000) (yf))]) rfl ?_
      exact g_iret C F dX4_indicator_45 rfl rfl (Nat.le_refl _) (Nat.le_refl _) (by exact ⟨_, _, rfl, e1, Or.inr ⟨by omega, by omega⟩, rfl⟩)
    · refine g_iload_n C dX4_indicator_26 2 rfl ?_
      refine g_if_lt C 35 dX4_indicator_27 (by decide) (fun c27 => ?_) (fun c27 => ?_)
      · refine g_iconst C dX4_indicator_35 (by decide) (fun x35 e35 => ?_)
        refine g_goto C 45 dX4_indicator_36 (by decide) ?_
        refine g_perm [2, 0, 1] rfl (ws' := [(m, .inr (6, [.int x1, z1, z2, z3, .int te, z5, .ref tb, .ref yb, z8, .int nf, z10, z11, z12, z13, z14, z15])), (tb, aI E (60) (tf)), (yb, aB E (114000) (yf))]) rfl ?_
        exact g_iret C F dX4_indicator_45 rfl rfl (Nat.le_refl _) (Nat.le_refl _) (by exact ⟨_, _, rfl, e1, Or.inr ⟨by omega, by omega⟩, rfl⟩)
      · refine g_iload_n C dX4_indicator_30 2 rfl ?_
        refine g_iconst C dX4_indicator_31 (by decide) (fun x31 e31 => ?_)
        refine g_icmp_le C 39 dX4_indicator_32 (by decide) (fun c32 => ?_) (fun c32 => ?_)
        · refine g_aload_n C dX4_indicator_39 0 rfl ?_
          refine g_iload_n C dX4_indicator_40 1 rfl ?_
          refine g_iload_n C dX4_indicator_41 2 rfl ?_
          refine g_callV C r mv_X4_104 dX4_indicator_42 (c_X4_at g.l E m yb yf x y (x.toInt.toNat - 1) (y.toInt.toNat) (.int x1) (z1) (z2) (z3) (.int te) (z5) (.ref tb) (z8) (.int nf) (z10) (z11) (z12) (z13) (z14) (z15) (by omega) (by omega) (by omega) (by omega)) (wr := [(tb, aI E (60) (tf))]) (As := [.int x, .int y]) (rest := []) (Spl.at [0] [2, 1] rfl rfl rfl) 0 rfl rfl rfl rfl (Nat.le_of_ble_eq_true rfl) (by decide) (Nat.le_refl _) (Nat.le_refl _) (fun v w h => ?_)
          obtain ⟨x42, rfl, e42, rfl⟩ := h
          change G E g [(tb, aI E (60) (tf)), (m, .inr (6, [.int x1, z1, z2, z3, .int te, z5, .ref tb, .ref yb, z8, .int nf, z10, z11, z12, z13, z14, z15])), (yb, aB E (114000) (yf))] _ _ _ _ [.int x42]
          refine g_perm [1, 0, 2] rfl (ws' := [(m, .inr (6, [.int x1, z1, z2, z3, .int te, z5, .ref tb, .ref yb, z8, .int nf, z10, z11, z12, z13, z14, z15])), (tb, aI E (60) (tf)), (yb, aB E (114000) (yf))]) rfl ?_
          exact g_iret C F dX4_indicator_45 rfl rfl (Nat.le_refl _) (Nat.le_refl _) (by exact ⟨_, _, rfl, e1, Or.inl ⟨by omega, by rw [e42, Bs_at hBs hW2 (by omega)]⟩, rfl⟩)
        · refine g_iconst C dX4_indicator_35 (by decide) (fun x35 e35 => ?_)
          refine g_goto C 45 dX4_indicator_36 (by decide) ?_
          refine g_perm [2, 0, 1] rfl (ws' := [(m, .inr (6, [.int x1, z1, z2, z3, .int te, z5, .ref tb, .ref yb, z8, .int nf, z10, z11, z12, z13, z14, z15])), (tb, aI E (60) (tf)), (yb, aB E (114000) (yf))]) rfl ?_
          exact g_iret C F dX4_indicator_45 rfl rfl (Nat.le_refl _) (Nat.le_refl _) (by exact ⟨_, _, rfl, e1, Or.inr ⟨by omega, by omega⟩, rfl⟩)
set_option maxHeartbeats 1000000 in
set_option maxRecDepth 10000 in
theorem c_X4_together (l : Launch) (E : GE) (m tb sb yb : Nat) (tf sf yf : Nat → Int32) (te nf : Int32) (fl : FL) (z0 z1 z2 z3 z5 z10 z11 z12 z13 z14 z15 : Value) (hM : MPr te nf tf sf yf fl) (hF : FW fl) (hte1 : te.toInt = 1) : Ctr l E yX4_together cX4_together 4 (some .int) 1 (0) (0) [.ref m] [(m, .inr (6, [z0, z1, z2, z3, .int te, z5, .ref tb, .ref yb, .ref sb, .int nf, z10, z11, z12, z13, z14, z15])), (tb, aI E (60) (tf)), (sb, aI E (60) (sf)), (yb, aB E (114000) (yf))] (oI (fun r => r.toInt = (tot fl fl.length : Int)) [(m, .inr (6, [z0, z1, z2, z3, .int te, z5, .ref tb, .ref yb, .ref sb, .int nf, z10, z11, z12, z13, z14, z15])), (tb, aI E (60) (tf)), (sb, aI E (60) (sf)), (yb, aB E (114000) (yf))]) := by
  refine Ctr.intro (by decide) (Nat.le_of_ble_eq_true rfl) (fun g hgl hN C r F hi => ?_)
  subst hgl
  have hfl := hF.1
  obtain ⟨hn1, hMF⟩ := hM.in (by omega)
  clear hM
  change G E g [(m, .inr (6, [z0, z1, z2, z3, .int te, z5, .ref tb, .ref yb, .ref sb, .int nf, z10, z11, z12, z13, z14, z15])), (tb, aI E (60) (tf)), (sb, aI E (60) (sf)), (yb, aB E (114000) (yf))] 0 0 0 [(0, .ref m)] []
  refine g_iconst C dX4_together_0 (by decide) (fun x0 e0 => ?_)
  refine g_istore_n C dX4_together_1 (by rw [hN]; decide) (lv' := [(1, .int x0), (0, .ref m)]) rfl ?_
  refine g_iconst C dX4_together_2 (by decide) (fun x2 e2 => ?_)
  refine g_istore_n C dX4_together_3 (by rw [hN]; decide) (lv' := [(2, .int x2), (1, .int x0), (0, .ref m)]) rfl ?_
  have loop4 : ∀ (nn : Nat) (n1 : Int32) (n2 : Int32) (k : Nat) (hm : fl.length - k < nn) (hk : k ≤ fl.length) (hp : n2.toInt = (k : Int) + 1) (hs : n1.toInt = (tot fl k : Int)), G E g [(m, .inr (6, [z0, z1, z2, z3, .int te, z5, .ref tb, .ref yb, .ref sb, .int nf, z10, z11, z12, z13, z14, z15])), (tb, aI E (60) (tf)), (sb, aI E (60) (sf)), (yb, aB E (114000) (yf))] 0 0 4 [(0, .ref m), (1, .int n1), (2, .int n2)] [] := by
    intro nn
    induction nn with
    | zero => intro n1 n2 k hm hk hp hs; omega
    | succ nn ih4 =>
      intro n1 n2 k hm hk hp hs
      have hb := tot_le hF k hk
      refine g_iload_n C dX4_together_4 2 rfl ?_
      refine g_aload_n C dX4_together_5 0 rfl ?_
      refine gf_X4_88 C 0 rfl rfl dX4_together_6 ?_
      refine g_icmp_gt C 81 dX4_together_9 (by decide) (fun c9 => ?_) (fun c9 => ?_)
      · refine g_iload_n C dX4_together_81 1 rfl ?_
        exact g_iret C F dX4_together_82 rfl rfl (Nat.le_refl _) (Nat.le_refl _) (by refine ⟨_, rfl, ?_, rfl⟩; show _ = _; rw [hs, show k = fl.length by omega])
      · obtain ⟨hT, hL, hBs⟩ := hMF k (by omega)
        obtain ⟨hW1, hW2, hW3, hW4, hW5⟩ := hF.2 k (by omega)
        refine g_iload_n C dX4_together_12 1 rfl ?_
        refine g_aload_n C dX4_together_13 0 rfl ?_
        refine gf_X4_24 C 0 rfl rfl dX4_together_14 ?_
        refine g_iload_n C dX4_together_17 2 rfl ?_
        refine g_iconst C dX4_together_18 (by decide) (fun x18 e18 => ?_)
        refine g_isub C dX4_together_19 (by omega) (fun x19 e19 => ?_)
        refine g_iaload C 2 rfl dX4_together_20 (k) (by omega) (by omega) (fun x20 e20 => ?_)
        have t20 := congrArg Int32.toInt e20
        refine g_iadd C dX4_together_21 (by omega) (fun x21 e21 => ?_)
        refine g_istore_n C dX4_together_22 (by rw [hN]; decide) (lv' := [(1, .int x21), (0, .ref m), (2, .int n2)]) rfl ?_
        refine g_iconst C dX4_together_23 (by decide) (fun x23 e23 => ?_)
        refine g_istore_n C dX4_together_24 (by rw [hN]; decide) (lv' := [(3, .int x23), (1, .int x21), (0, .ref m), (2, .int n2)]) rfl ?_
        have loop25 : ∀ (nn : Nat) (s1 : Int32) (n3 : Int32) (j : Nat) (hm : (fB fl k).length - j < nn) (hj : 2 ≤ j ∧ (j ≤ (fB fl k).length ∨ j = 2)) (hp3 : n3.toInt = (j : Int)) (hs1 : s1.toInt = (tot fl k : Int) + ((fB fl k).length : Int) - (if fT fl k ≤ 9 then 0 else (c31 (((fB fl k).drop 2).take (j - 2)) : Int))), G E g [(m, .inr (6, [z0, z1, z2, z3, .int te, z5, .ref tb, .ref yb, .ref sb, .int nf, z10, z11, z12, z13, z14, z15])), (tb, aI E (60) (tf)), (sb, aI E (60) (sf)), (yb, aB E (114000) (yf))] 0 0 25 [(0, .ref m), (1, .int s1), (2, .int n2), (3, .int n3)] [] := by
          intro nn
          induction nn with
          | zero => intro s1 n3 j hm hj hp3 hs1; omega
          | succ nn ih25 =>
            intro s1 n3 j hm hj hp3 hs1
            have hc9 : 0 ≤ (if fT fl k ≤ 9 then 0 else (c31 (((fB fl k).drop 2).take (j - 2)) : Int)) ∧ (if fT fl k ≤ 9 then 0 else (c31 (((fB fl k).drop 2).take (j - 2)) : Int)) ≤ 1800 := tg_b hW3
            generalize hgg : (if fT fl k ≤ 9 then 0 else (c31 (((fB fl k).drop 2).take (j - 2)) : Int)) = cc9 at hc9
            refine g_iload_n C dX4_together_25 3 rfl ?_
            refine g_aload_n C dX4_together_26 0 rfl ?_
            refine gf_X4_24 C 0 rfl rfl dX4_together_27 ?_
            refine g_iload_n C dX4_together_30 2 rfl ?_
            refine g_iconst C dX4_together_31 (by decide) (fun x31 e31 => ?_)
            refine g_isub C dX4_together_32 (by omega) (fun x32 e32 => ?_)
            refine g_iaload C 2 rfl dX4_together_33 (k) (by omega) (by omega) (fun x33 e33 => ?_)
            have t33 := congrArg Int32.toInt e33
            refine g_icmp_ge C 75 dX4_together_34 (by decide) (fun c34 => ?_) (fun c34 => ?_)
            · have hs75 := tg_e2 hs1 (by omega)
              refine g_iinc C dX4_together_75 2 rfl (by rw [hN]; decide) (by decide) (by omega) (fun x75 e75 => ?_)
              refine g_lvE (lv' := [(2, .int x75), (0, .ref m), (1, .int s1), (3, .int n3)]) rfl ?_
              refine g_goto C 4 dX4_together_78 (by decide) ?_
              refine g_lv [1, 2, 0] (lv' := [(0, .ref m), (1, .int s1), (2, .int x75)]) rfl ?_
              exact ih4 (s1) (x75) (k + 1) (by omega) (by omega) (by omega) (by exact hs75)
            · refine g_aload_n C dX4_together_37 0 rfl ?_
              refine gf_X4_16 C 0 rfl rfl dX4_together_38 ?_
              refine g_iload_n C dX4_together_41 2 rfl ?_
              refine g_iconst C dX4_together_42 (by decide) (fun x42 e42 => ?_)
              refine g_isub C dX4_together_43 (by omega) (fun x43 e43 => ?_)
              refine g_iaload C 1 rfl dX4_together_44 (k) (by omega) (by omega) (fun x44 e44 => ?_)
              have t44 := congrArg Int32.toInt e44
              refine g_bipush C dX4_together_45 (by decide) (fun x45 e45 => ?_)
              refine g_icmp_le C 75 dX4_together_47 (by decide) (fun c47 => ?_) (fun c47 => ?_)
              · have hs75 := tg_e1 hs1 (by omega)
                refine g_iinc C dX4_together_75 2 rfl (by rw [hN]; decide) (by decide) (by omega) (fun x75 e75 => ?_)
                refine g_lvE (lv' := [(2, .int x75), (0, .ref m), (1, .int s1), (3, .int n3)]) rfl ?_
                refine g_goto C 4 dX4_together_78 (by decide) ?_
                refine g_lv [1, 2, 0] (lv' := [(0, .ref m), (1, .int s1), (2, .int x75)]) rfl ?_
                exact ih4 (s1) (x75) (k + 1) (by omega) (by omega) (by omega) (by exact hs75)
              · refine g_iload_n C dX4_together_50 1 rfl ?_
                refine g_aload_n C dX4_together_51 0 rfl ?_
                refine g_iload_n C dX4_together_52 2 rfl ?_
                refine g_iload_n C dX4_together_53 3 rfl ?_
                refine g_callV C r mv_X4_104 dX4_together_54 (c_X4_at g.l E m yb yf n2 n3 (k) (j) (z0) (z1) (z2) (z3) (.int te) (z5) (.ref tb) (.ref sb) (.int nf) (z10) (z11) (z12) (z13) (z14) (z15) (by omega) (by omega) (by omega) (by omega)) (wr := [(tb, aI E (60) (tf)), (sb, aI E (60) (sf))]) (As := [.int n2, .int n3]) (rest := [.int s1]) (Spl.at [1, 2] [0, 3] rfl rfl rfl) 0 rfl rfl rfl rfl (Nat.le_of_ble_eq_true rfl) (by decide) (Nat.le_refl _) (Nat.le_refl _) (fun v w h => ?_)
                obtain ⟨x54, rfl, e54, rfl⟩ := h
                change G E g [(tb, aI E (60) (tf)), (sb, aI E (60) (sf)), (m, .inr (6, [z0, z1, z2, z3, .int te, z5, .ref tb, .ref yb, .ref sb, .int nf, z10, z11, z12, z13, z14, z15])), (yb, aB E (114000) (yf))] _ _ _ _ [.int x54, .int s1]
                rw [Bs_at hBs hW2 (by omega)] at e54
                refine g_bipush C dX4_together_57 (by decide) (fun x57 e57 => ?_)
                refine g_icmp_ne C 66 dX4_together_59 (by decide) (fun c59 => ?_) (fun c59 => ?_)
                · refine g_iconst C dX4_together_66 (by decide) (fun x66 e66 => ?_)
                  refine g_isub C dX4_together_67 (by omega) (fun x67 e67 => ?_)
                  refine g_istore_n C dX4_together_68 (by rw [hN]; decide) (lv' := [(1, .int x67), (0, .ref m), (2, .int n2), (3, .int n3)]) rfl ?_
                  refine g_iinc C dX4_together_69 3 rfl (by rw [hN]; decide) (by decide) (by omega) (fun x69 e69 => ?_)
                  refine g_lvE (lv' := [(3, .int x69), (1, .int x67), (0, .ref m), (2, .int n2)]) rfl ?_
                  refine g_goto C 25 dX4_together_72 (by decide) ?_
                  refine g_lv [2, 1, 3, 0] (lv' := [(0, .ref m), (1, .int x67), (2, .int n2), (3, .int x69)]) rfl ?_
                  refine g_perm [2, 0, 1, 3] rfl (ws' := [(m, .inr (6, [z0, z1, z2, z3, .int te, z5, .ref tb, .ref yb, .ref sb, .int nf, z10, z11, z12, z13, z14, z15])), (tb, aI E (60) (tf)), (sb, aI E (60) (sf)), (yb, aB E (114000) (yf))]) rfl ?_
                  exact ih25 (x67) (x69) (j + 1) (by omega) (by omega) (by omega) (by exact tg_next (by omega) (by omega) (by omega) hs1 (by omega) e67)
                · refine g_iconst C dX4_together_62 (by decide) (fun x62 e62 => ?_)
                  refine g_goto C 67 dX4_together_63 (by decide) ?_
                  refine g_isub C dX4_together_67 (by omega) (fun x67 e67 => ?_)
                  refine g_istore_n C dX4_together_68 (by rw [hN]; decide) (lv' := [(1, .int x67), (0, .ref m), (2, .int n2), (3, .int n3)]) rfl ?_
                  refine g_iinc C dX4_together_69 3 rfl (by rw [hN]; decide) (by decide) (by omega) (fun x69 e69 => ?_)
                  refine g_lvE (lv' := [(3, .int x69), (1, .int x67), (0, .ref m), (2, .int n2)]) rfl ?_
                  refine g_goto C 25 dX4_together_72 (by decide) ?_
                  refine g_lv [2, 1, 3, 0] (lv' := [(0, .ref m), (1, .int x67), (2, .int n2), (3, .int x69)]) rfl ?_
                  refine g_perm [2, 0, 1, 3] rfl (ws' := [(m, .inr (6, [z0, z1, z2, z3, .int te, z5, .ref tb, .ref yb, .ref sb, .int nf, z10, z11, z12, z13, z14, z15])), (tb, aI E (60) (tf)), (sb, aI E (60) (sf)), (yb, aB E (114000) (yf))]) rfl ?_
                  exact ih25 (x67) (x69) (j + 1) (by omega) (by omega) (by omega) (by exact tg_next (by omega) (by omega) (by omega) hs1 (by omega) e67)
        refine g_lv [2, 1, 3, 0] (lv' := [(0, .ref m), (1, .int x21), (2, .int n2), (3, .int x23)]) rfl ?_
        exact loop25 _ (x21) (x23) (2) (Nat.lt_succ_self _) (by omega) (by omega) (by exact tg_0 (by omega))
  refine g_lv [2, 1, 0] (lv' := [(0, .ref m), (1, .int x0), (2, .int x2)]) rfl ?_
  exact loop4 _ (x0) (x2) (0) (Nat.lt_succ_self _) (by omega) (by omega) (by rw [e0]; rfl)
