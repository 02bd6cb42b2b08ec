set_option maxHeartbeats 2000000 in
set_option maxRecDepth 10000 in
theorem c_X4_put (l : Launch) (E : GE) (m tb sb yb : Nat) (tf sf yf : Nat → Int32) (te nf : Int32) (fl : FL) (t0 x y : Int32) (z1 z2 z3 z5 z10 z11 z12 z13 z14 z15 : Value) (hM : MPr te nf tf sf yf fl) (hF : FW fl) : Ctr l E yX4_put cX4_put 3 (some .int) 0 (0) (0) [.ref m, .int x, .int y] [(m, .inr (6, [.int t0, z1, z2, z3, .int te, z5, .ref tb, .ref yb, .ref sb, .int nf, z10, z11, z12, z13, z14, z15])), (tb, aI E (60) (tf)), (sb, aI E (60) (sf)), (yb, aB E (114000) (yf))] (fun v w => ∃ (r t nf2 : Int32) (tf2 sf2 yf2 : Nat → Int32), v = some (.int r) ∧ t.toInt = 0 ∧ (((te.toInt ≠ 0 ∧ 0 ≤ x.toInt ∧ x.toInt ≤ 999 ∧ fl.length < 60) ∧ r.toInt = ((fl.length + 1 : Nat) : Int) ∧ MPr te nf2 tf2 sf2 yf2 (putF fl x.toInt.toNat (u8 (sh8 y)) (u8 y))) ∨ (¬ (te.toInt ≠ 0 ∧ 0 ≤ x.toInt ∧ x.toInt ≤ 999 ∧ fl.length < 60) ∧ r.toInt = 0 ∧ MPr te nf2 tf2 sf2 yf2 fl)) ∧ w = [(m, .inr (6, [.int t, z1, z2, z3, .int te, z5, .ref tb, .ref yb, .ref sb, .int nf2, z10, z11, z12, z13, z14, z15])), (tb, aI E (60) (tf2)), (sb, aI E (60) (sf2)), (yb, aB E (114000) (yf2))]) := by
  refine Ctr.intro (by decide) (Nat.le_of_ble_eq_true rfl) (fun g hgl hN C r F hi => ?_)
  subst hgl
  have hte := hM.te
  have hin : te.toInt ≠ 0 → nf.toInt = (fl.length : Int) := fun h => (hM.in h).1
  have hno := hM.no
  have hnf := hM.nf hF
  have hfl := hF.1
  change G E g [(m, .inr (6, [.int t0, z1, z2, z3, .int te, z5, .ref tb, .ref yb, .ref sb, .int nf, z10, z11, z12, z13, z14, z15])), (tb, aI E (60) (tf)), (sb, aI E (60) (sf)), (yb, aB E (114000) (yf))] 0 0 0 [(0, .ref m), (1, .int x), (2, .int y)] []
  refine g_aload_n C dX4_put_0 0 rfl ?_
  refine g_iconst C dX4_put_1 (by decide) (fun x1 e1 => ?_)
  refine gp_X4_37 C 0 rfl (Nat.le_of_ble_eq_true rfl) rfl rfl dX4_put_2 ?_
  change G E g [(m, .inr (6, [.int x1, z1, z2, z3, .int te, z5, .ref tb, .ref yb, .ref sb, .int nf, z10, z11, z12, z13, z14, z15])), (tb, aI E (60) (tf)), (sb, aI E (60) (sf)), (yb, aB E (114000) (yf))] _ _ _ _ _
  refine g_aload_n C dX4_put_5 0 rfl ?_
  refine gf_X4_91 C 0 rfl rfl dX4_put_6 ?_
  refine g_if_eq C 32 dX4_put_9 (by decide) (fun c9 => ?_) (fun c9 => ?_)
  · refine g_iconst C dX4_put_32 (by decide) (fun x32 e32 => ?_)
    exact g_iret C F dX4_put_33 rfl rfl (Nat.le_refl _) (Nat.le_refl _) (by exact ⟨_, _, _, _, _, _, rfl, e1, Or.inr ⟨by omega, by omega, hM⟩, rfl⟩)
  · refine g_iload_n C dX4_put_12 1 rfl ?_
    refine g_if_lt C 32 dX4_put_13 (by decide) (fun c13 => ?_) (fun c13 => ?_)
    · refine g_iconst C dX4_put_32 (by decide) (fun x32 e32 => ?_)
      exact g_iret C F dX4_put_33 rfl rfl (Nat.le_refl _) (Nat.le_refl _) (by exact ⟨_, _, _, _, _, _, rfl, e1, Or.inr ⟨by omega, by omega, hM⟩, rfl⟩)
    · refine g_iload_n C dX4_put_16 1 rfl ?_
      refine g_sipush C dX4_put_17 (by decide) (fun x17 e17 => ?_)
      refine g_icmp_gt C 32 dX4_put_20 (by decide) (fun c20 => ?_) (fun c20 => ?_)
      · refine g_iconst C dX4_put_32 (by decide) (fun x32 e32 => ?_)
        exact g_iret C F dX4_put_33 rfl rfl (Nat.le_refl _) (Nat.le_refl _) (by exact ⟨_, _, _, _, _, _, rfl, e1, Or.inr ⟨by omega, by omega, hM⟩, rfl⟩)
      · refine g_aload_n C dX4_put_23 0 rfl ?_
        refine gf_X4_88 C 0 rfl rfl dX4_put_24 ?_
        refine g_bipush C dX4_put_27 (by decide) (fun x27 e27 => ?_)
        refine g_icmp_ne C 34 dX4_put_29 (by decide) (fun c29 => ?_) (fun c29 => ?_)
        · obtain ⟨hn1, hMF⟩ := hM.in (by omega)
          have hlt : ∀ j, j < fl.length → (fB fl j).length ≤ 1900 := fun j hj => by have := (hF.2 j hj).2.2.1; omega
          refine g_aload_n C dX4_put_34 0 rfl ?_
          refine gf_X4_16 C 0 rfl rfl dX4_put_35 ?_
          refine g_aload_n C dX4_put_38 0 rfl ?_
          refine gf_X4_88 C 0 rfl rfl dX4_put_39 ?_
          refine g_iload_n C dX4_put_42 1 rfl ?_
          refine g_iastore C 1 rfl dX4_put_43 (fl.length) (by omega) (by omega) ?_
          change G E g [(m, .inr (6, [.int x1, z1, z2, z3, .int te, z5, .ref tb, .ref yb, .ref sb, .int nf, z10, z11, z12, z13, z14, z15])), (tb, aI E (60) (upd (tf) (fl.length) x)), (sb, aI E (60) (sf)), (yb, aB E (114000) (yf))] _ _ _ _ _
          refine g_aload_n C dX4_put_44 0 rfl ?_
          refine gf_X4_24 C 0 rfl rfl dX4_put_45 ?_
          refine g_aload_n C dX4_put_48 0 rfl ?_
          refine gf_X4_88 C 0 rfl rfl dX4_put_49 ?_
          refine g_iload_n C dX4_put_52 1 rfl ?_
          refine g_bipush C dX4_put_53 (by decide) (fun x53 e53 => ?_)
          refine g_icmp_ge C 62 dX4_put_55 (by decide) (fun c55 => ?_) (fun c55 => ?_)
          · refine g_iconst C dX4_put_62 (by decide) (fun x62 e62 => ?_)
            refine g_iastore C 2 rfl dX4_put_63 (fl.length) (by omega) (by omega) ?_
            change G E g [(m, .inr (6, [.int x1, z1, z2, z3, .int te, z5, .ref tb, .ref yb, .ref sb, .int nf, z10, z11, z12, z13, z14, z15])), (tb, aI E (60) (upd (tf) (fl.length) x)), (sb, aI E (60) (upd (sf) (fl.length) x62)), (yb, aB E (114000) (yf))] _ _ _ _ _
            refine g_aload_n C dX4_put_64 0 rfl ?_
            refine gf_X4_21 C 0 rfl rfl dX4_put_65 ?_
            refine g_sipush C dX4_put_68 (by decide) (fun x68 e68 => ?_)
            refine g_aload_n C dX4_put_71 0 rfl ?_
            refine gf_X4_88 C 0 rfl rfl dX4_put_72 ?_
            refine g_imul C dX4_put_75 (1900 * nf.toInt) (by rw [e68]) (by omega) (fun x75 e75 => ?_)
            refine g_iload_n C dX4_put_76 2 rfl ?_
            refine g_bipush C dX4_put_77 (by decide) (fun x77 e77 => ?_)
            refine g_ishr8 C dX4_put_79 e77 (fun x79 e79 => ?_)
            refine g_i2b C dX4_put_80 (fun x80 e80 => ?_)
            refine g_bastore C 3 rfl dX4_put_81 (1900 * fl.length) (by omega) (by omega) ?_
            change G E g [(m, .inr (6, [.int x1, z1, z2, z3, .int te, z5, .ref tb, .ref yb, .ref sb, .int nf, z10, z11, z12, z13, z14, z15])), (tb, aI E (60) (upd (tf) (fl.length) x)), (sb, aI E (60) (upd (sf) (fl.length) x62)), (yb, aB E (114000) (upd (yf) (1900 * fl.length) (sB (u8 x80))))] _ _ _ _ _
            refine g_aload_n C dX4_put_82 0 rfl ?_
            refine gf_X4_21 C 0 rfl rfl dX4_put_83 ?_
            refine g_sipush C dX4_put_86 (by decide) (fun x86 e86 => ?_)
            refine g_aload_n C dX4_put_89 0 rfl ?_
            refine gf_X4_88 C 0 rfl rfl dX4_put_90 ?_
            refine g_imul C dX4_put_93 (1900 * nf.toInt) (by rw [e86]) (by omega) (fun x93 e93 => ?_)
            refine g_iconst C dX4_put_94 (by decide) (fun x94 e94 => ?_)
            refine g_iadd C dX4_put_95 (by omega) (fun x95 e95 => ?_)
            refine g_iload_n C dX4_put_96 2 rfl ?_
            refine g_i2b C dX4_put_97 (fun x97 e97 => ?_)
            refine g_bastore C 3 rfl dX4_put_98 (1900 * fl.length + 1) (by omega) (by omega) ?_
            change G E g [(m, .inr (6, [.int x1, z1, z2, z3, .int te, z5, .ref tb, .ref yb, .ref sb, .int nf, z10, z11, z12, z13, z14, z15])), (tb, aI E (60) (upd (tf) (fl.length) x)), (sb, aI E (60) (upd (sf) (fl.length) x62)), (yb, aB E (114000) (upd (upd (yf) (1900 * fl.length) (sB (u8 x80))) (1900 * fl.length + 1) (sB (u8 x97))))] _ _ _ _ _
            refine g_aload_n C dX4_put_99 0 rfl ?_
            refine g_dup C dX4_put_100 rfl ?_
            refine gf_X4_88 C 0 rfl rfl dX4_put_101 ?_
            refine g_iconst C dX4_put_104 (by decide) (fun x104 e104 => ?_)
            refine g_iadd C dX4_put_105 (by omega) (fun x105 e105 => ?_)
            refine gp_X4_88 C 0 rfl (Nat.le_of_ble_eq_true rfl) rfl rfl dX4_put_106 ?_
            change G E g [(m, .inr (6, [.int x1, z1, z2, z3, .int te, z5, .ref tb, .ref yb, .ref sb, .int x105, z10, z11, z12, z13, z14, z15])), (tb, aI E (60) (upd (tf) (fl.length) x)), (sb, aI E (60) (upd (sf) (fl.length) x62)), (yb, aB E (114000) (upd (upd (yf) (1900 * fl.length) (sB (u8 x80))) (1900 * fl.length + 1) (sB (u8 x97))))] _ _ _ _ _
            refine g_aload_n C dX4_put_109 0 rfl ?_
            refine gf_X4_88 C 0 rfl rfl dX4_put_110 ?_
            exact g_iret C F dX4_put_113 rfl rfl (Nat.le_refl _) (Nat.le_refl _) (by exact ⟨_, _, _, _, _, _, rfl, e1, Or.inl ⟨by omega, by omega, pt_M hMF hlt (by omega) (by omega) (by omega) (by omega) e79 e80 e97⟩, rfl⟩)
          · refine g_iconst C dX4_put_58 (by decide) (fun x58 e58 => ?_)
            refine g_goto C 63 dX4_put_59 (by decide) ?_
            refine g_iastore C 2 rfl dX4_put_63 (fl.length) (by omega) (by omega) ?_
            change G E g [(m, .inr (6, [.int x1, z1, z2, z3, .int te, z5, .ref tb, .ref yb, .ref sb, .int nf, z10, z11, z12, z13, z14, z15])), (tb, aI E (60) (upd (tf) (fl.length) x)), (sb, aI E (60) (upd (sf) (fl.length) x58)), (yb, aB E (114000) (yf))] _ _ _ _ _
            refine g_aload_n C dX4_put_64 0 rfl ?_
            refine gf_X4_21 C 0 rfl rfl dX4_put_65 ?_
            refine g_sipush C dX4_put_68 (by decide) (fun x68 e68 => ?_)
            refine g_aload_n C dX4_put_71 0 rfl ?_
            refine gf_X4_88 C 0 rfl rfl dX4_put_72 ?_
            refine g_imul C dX4_put_75 (1900 * nf.toInt) (by rw [e68]) (by omega) (fun x75 e75 => ?_)
            refine g_iload_n C dX4_put_76 2 rfl ?_
            refine g_bipush C dX4_put_77 (by decide) (fun x77 e77 => ?_)
            refine g_ishr8 C dX4_put_79 e77 (fun x79 e79 => ?_)
            refine g_i2b C dX4_put_80 (fun x80 e80 => ?_)
            refine g_bastore C 3 rfl dX4_put_81 (1900 * fl.length) (by omega) (by omega) ?_
            change G E g [(m, .inr (6, [.int x1, z1, z2, z3, .int te, z5, .ref tb, .ref yb, .ref sb, .int nf, z10, z11, z12, z13, z14, z15])), (tb, aI E (60) (upd (tf) (fl.length) x)), (sb, aI E (60) (upd (sf) (fl.length) x58)), (yb, aB E (114000) (upd (yf) (1900 * fl.length) (sB (u8 x80))))] _ _ _ _ _
            refine g_aload_n C dX4_put_82 0 rfl ?_
            refine gf_X4_21 C 0 rfl rfl dX4_put_83 ?_
            refine g_sipush C dX4_put_86 (by decide) (fun x86 e86 => ?_)
            refine g_aload_n C dX4_put_89 0 rfl ?_
            refine gf_X4_88 C 0 rfl rfl dX4_put_90 ?_
            refine g_imul C dX4_put_93 (1900 * nf.toInt) (by rw [e86]) (by omega) (fun x93 e93 => ?_)
            refine g_iconst C dX4_put_94 (by decide) (fun x94 e94 => ?_)
            refine g_iadd C dX4_put_95 (by omega) (fun x95 e95 => ?_)
            refine g_iload_n C dX4_put_96 2 rfl ?_
            refine g_i2b C dX4_put_97 (fun x97 e97 => ?_)
            refine g_bastore C 3 rfl dX4_put_98 (1900 * fl.length + 1) (by omega) (by omega) ?_
            change G E g [(m, .inr (6, [.int x1, z1, z2, z3, .int te, z5, .ref tb, .ref yb, .ref sb, .int nf, z10, z11, z12, z13, z14, z15])), (tb, aI E (60) (upd (tf) (fl.length) x)), (sb, aI E (60) (upd (sf) (fl.length) x58)), (yb, aB E (114000) (upd (upd (yf) (1900 * fl.length) (sB (u8 x80))) (1900 * fl.length + 1) (sB (u8 x97))))] _ _ _ _ _
            refine g_aload_n C dX4_put_99 0 rfl ?_
            refine g_dup C dX4_put_100 rfl ?_
            refine gf_X4_88 C 0 rfl rfl dX4_put_101 ?_
            refine g_iconst C dX4_put_104 (by decide) (fun x104 e104 => ?_)
            refine g_iadd C dX4_put_105 (by omega) (fun x105 e105 => ?_)
            refine gp_X4_88 C 0 rfl (Nat.le_of_ble_eq_true rfl) rfl rfl dX4_put_106 ?_
            change G E g [(m, .inr (6, [.int x1, z1, z2, z3, .int te, z5, .ref tb, .ref yb, .ref sb, .int x105, z10, z11, z12, z13, z14, z15])), (tb, aI E (60) (upd (tf) (fl.length) x)), (sb, aI E (60) (upd (sf) (fl.length) x58)), (yb, aB E (114000) (upd (upd (yf) (1900 * fl.length) (sB (u8 x80))) (1900 * fl.length + 1) (sB (u8 x97))))] _ _ _ _ _
            refine g_aload_n C dX4_put_109 0 rfl ?_
            refine gf_X4_88 C 0 rfl rfl dX4_put_110 ?_
            exact g_iret C F dX4_put_113 rfl rfl (Nat.le_refl _) (Nat.le_refl _) (by exact ⟨_, _, _, _, _, _, rfl, e1, Or.inl ⟨by omega, by omega, pt_M hMF hlt (by omega) (by omega) (by omega) (by omega) e79 e80 e97⟩, rfl⟩)
        · refine g_iconst C dX4_put_32 (by decide) (fun x32 e32 => ?_)
          exact g_iret C F dX4_put_33 rfl rfl (Nat.le_refl _) (Nat.le_refl _) (by exact ⟨_, _, _, _, _, _, rfl, e1, Or.inr ⟨by omega, by omega, hM⟩, rfl⟩)
set_option maxHeartbeats 1000000 in
set_option maxRecDepth 10000 in
theorem c_X4_leader (l : Launch) (E : GE) (m lb : Nat) (lf : Nat → Int32) (t0 te nf x y : Int32) (z1 z2 z3 z6 z7 z8 z10 z11 z12 z13 z14 z15 : Value) (hte : te.toInt = 0 ∨ te.toInt = 1) : Ctr l E yX4_leader cX4_leader 4 (some .boolean) 1 (0) (0) [.ref m, .int x, .int y] [(m, .inr (6, [.int t0, z1, z2, z3, .int te, .ref lb, z6, z7, z8, .int nf, z10, z11, z12, z13, z14, z15])), (lb, aB E (24) (lf))] (fun v w => ∃ (r t te2 nf2 : Int32) (lf2 : Nat → Int32), v = some (.int r) ∧ t.toInt = 0 ∧ ((((5 ≤ x.toInt ∧ x.toInt ≤ 9) ∨ (17 ≤ x.toInt ∧ x.toInt ≤ 19) ∨ x.toInt = 22 ∨ x.toInt = 23) ∧ r.toInt = 1 ∧ te2.toInt = 1 ∧ ((te.toInt ≠ 0 ∧ nf2 = nf ∧ lf2 = upd lf x.toInt.toNat (sB (u8 y))) ∨ (te.toInt = 0 ∧ nf2.toInt = 0 ∧ lf2 = upd (fun j => if j < 24 then sB 32 else lf j) x.toInt.toNat (sB (u8 y))))) ∨ (¬ ((5 ≤ x.toInt ∧ x.toInt ≤ 9) ∨ (17 ≤ x.toInt ∧ x.toInt ≤ 19) ∨ x.toInt = 22 ∨ x.toInt = 23) ∧ r.toInt = 0 ∧ te2 = te ∧ nf2 = nf ∧ lf2 = lf)) ∧ w = [(m, .inr (6, [.int t, z1, z2, z3, .int te2, .ref lb, z6, z7, z8, .int nf2, z10, z11, z12, z13, z14, z15])), (lb, aB E (24) (lf2))]) := by
  refine Ctr.intro (by decide) (Nat.le_of_ble_eq_true rfl) (fun g hgl hN C r F hi => ?_)
  subst hgl
  change G E g [(m, .inr (6, [.int t0, z1, z2, z3, .int te, .ref lb, z6, z7, z8, .int nf, z10, z11, z12, z13, z14, z15])), (lb, aB E (24) (lf))] 0 0 0 [(0, .ref m), (1, .int x), (2, .int y)] []
  refine g_aload_n C dX4_leader_0 0 rfl ?_
  refine g_iconst C dX4_leader_1 (by decide) (fun x1 e1 => ?_)
  refine gp_X4_37 C 0 rfl (Nat.le_of_ble_eq_true rfl) rfl rfl dX4_leader_2 ?_
  change G E g [(m, .inr (6, [.int x1, z1, z2, z3, .int te, .ref lb, z6, z7, z8, .int nf, z10, z11, z12, z13, z14, z15])), (lb, aB E (24) (lf))] _ _ _ _ _
  refine g_iload_n C dX4_leader_5 1 rfl ?_
  refine g_callS C r ms_X4_107 dX4_leader_6 (c_X4_isAny g.l E x) (wr := [(m, .inr (6, [.int x1, z1, z2, z3, .int te, .ref lb, z6, z7, z8, .int nf, z10, z11, z12, z13, z14, z15])), (lb, aB E (24) (lf))]) (As := [.int x]) (rest := []) (Spl.at [0, 1] [] rfl rfl rfl) rfl (Nat.le_of_ble_eq_true rfl) (by decide) (Nat.le_refl _) (Nat.le_refl _) (fun v w h => ?_)
  obtain ⟨x6, rfl, e6, rfl⟩ := h
  change G E g [(m, .inr (6, [.int x1, z1, z2, z3, .int te, .ref lb, z6, z7, z8, .int nf, z10, z11, z12, z13, z14, z15])), (lb, aB E (24) (lf))] _ _ _ _ [.int x6]
  refine g_if_ne C 14 dX4_leader_9 (by decide) (fun c9 => ?_) (fun c9 => ?_)
  · replace e6 := bl1 e6 c9
    refine g_aload_n C dX4_leader_14 0 rfl ?_
    refine gf_X4_91 C 0 rfl rfl dX4_leader_15 ?_
    refine g_if_ne C 53 dX4_leader_18 (by decide) (fun c18 => ?_) (fun c18 => ?_)
    · refine g_aload_n C dX4_leader_53 0 rfl ?_
      refine gf_X4_13 C 0 rfl rfl dX4_leader_54 ?_
      refine g_iload_n C dX4_leader_57 1 rfl ?_
      refine g_iload_n C dX4_leader_58 2 rfl ?_
      refine g_i2b C dX4_leader_59 (fun x59 e59 => ?_)
      refine g_bastore C 1 rfl dX4_leader_60 (x.toInt.toNat) (by omega) (by omega) ?_
      change G E g [(m, .inr (6, [.int x1, z1, z2, z3, .int te, .ref lb, z6, z7, z8, .int nf, z10, z11, z12, z13, z14, z15])), (lb, aB E (24) (upd (lf) (x.toInt.toNat) (sB (u8 x59))))] _ _ _ _ _
      refine g_iconst C dX4_leader_61 (by decide) (fun x61 e61 => ?_)
      exact g_iret C F dX4_leader_62 rfl (nz_b x61 (by omega)) (Nat.le_refl _) (Nat.le_refl _) (by exact ⟨_, _, _, _, _, rfl, e1, Or.inl ⟨e6, by omega, by omega, Or.inl ⟨by omega, rfl, by rw [e59, sB_u8_sB]⟩⟩, rfl⟩)
    · refine g_aload_n C dX4_leader_21 0 rfl ?_
      refine g_iconst C dX4_leader_22 (by decide) (fun x22 e22 => ?_)
      refine gp_X4_91 C 0 rfl (Nat.le_of_ble_eq_true rfl) (nz_b x22 (by omega)) (fz_b x22 (by omega)) dX4_leader_23 ?_
      change G E g [(m, .inr (6, [.int x1, z1, z2, z3, .int x22, .ref lb, z6, z7, z8, .int nf, z10, z11, z12, z13, z14, z15])), (lb, aB E (24) (lf))] _ _ _ _ _
      refine g_aload_n C dX4_leader_26 0 rfl ?_
      refine g_iconst C dX4_leader_27 (by decide) (fun x27 e27 => ?_)
      refine gp_X4_88 C 0 rfl (Nat.le_of_ble_eq_true rfl) rfl rfl dX4_leader_28 ?_
      change G E g [(m, .inr (6, [.int x1, z1, z2, z3, .int x22, .ref lb, z6, z7, z8, .int x27, z10, z11, z12, z13, z14, z15])), (lb, aB E (24) (lf))] _ _ _ _ _
      refine g_iconst C dX4_leader_31 (by decide) (fun x31 e31 => ?_)
      refine g_istore_n C dX4_leader_32 (by rw [hN]; decide) (lv' := [(3, .int x31), (0, .ref m), (1, .int x), (2, .int y)]) rfl ?_
      have loop33 : ∀ (nn : Nat) (n3 : Int32) (lk : Nat → Int32) (k : Nat) (hm : 24 - k < nn) (hk : k ≤ 24) (hp : n3.toInt = (k : Int)) (hf : lk = fun j => if j < k then sB 32 else lf j), G E g [(m, .inr (6, [.int x1, z1, z2, z3, .int x22, .ref lb, z6, z7, z8, .int x27, z10, z11, z12, z13, z14, z15])), (lb, aB E (24) (lk))] 0 0 33 [(0, .ref m), (1, .int x), (2, .int y), (3, .int n3)] [] := by
        intro nn
        induction nn with
        | zero => intro n3 lk k hm hk hp hf; omega
        | succ nn ih33 =>
          intro n3 lk k hm hk hp hf
          refine g_iload_n C dX4_leader_33 3 rfl ?_
          refine g_bipush C dX4_leader_34 (by decide) (fun x34 e34 => ?_)
          refine g_icmp_ge C 53 dX4_leader_36 (by decide) (fun c36 => ?_) (fun c36 => ?_)
          · refine g_aload_n C dX4_leader_53 0 rfl ?_
            refine gf_X4_13 C 0 rfl rfl dX4_leader_54 ?_
            refine g_iload_n C dX4_leader_57 1 rfl ?_
            refine g_iload_n C dX4_leader_58 2 rfl ?_
            refine g_i2b C dX4_leader_59 (fun x59 e59 => ?_)
            refine g_bastore C 1 rfl dX4_leader_60 (x.toInt.toNat) (by omega) (by omega) ?_
            change G E g [(m, .inr (6, [.int x1, z1, z2, z3, .int x22, .ref lb, z6, z7, z8, .int x27, z10, z11, z12, z13, z14, z15])), (lb, aB E (24) (upd (lk) (x.toInt.toNat) (sB (u8 x59))))] _ _ _ _ _
            refine g_iconst C dX4_leader_61 (by decide) (fun x61 e61 => ?_)
            exact g_iret C F dX4_leader_62 rfl (nz_b x61 (by omega)) (Nat.le_refl _) (Nat.le_refl _) (by exact ⟨_, _, _, _, _, rfl, e1, Or.inl ⟨e6, by omega, by omega, Or.inr ⟨by omega, by omega, by rw [e59, sB_u8_sB, hf, show k = 24 by omega]⟩⟩, rfl⟩)
          · refine g_aload_n C dX4_leader_39 0 rfl ?_
            refine gf_X4_13 C 0 rfl rfl dX4_leader_40 ?_
            refine g_iload_n C dX4_leader_43 3 rfl ?_
            refine g_bipush C dX4_leader_44 (by decide) (fun x44 e44 => ?_)
            refine g_bastore C 1 rfl dX4_leader_46 (k) (by omega) (by omega) ?_
            change G E g [(m, .inr (6, [.int x1, z1, z2, z3, .int x22, .ref lb, z6, z7, z8, .int x27, z10, z11, z12, z13, z14, z15])), (lb, aB E (24) (upd (lk) (k) (sB (u8 x44))))] _ _ _ _ _
            refine g_iinc C dX4_leader_47 3 rfl (by rw [hN]; decide) (by decide) (by omega) (fun x47 e47 => ?_)
            refine g_lvE (lv' := [(3, .int x47), (0, .ref m), (1, .int x), (2, .int y)]) rfl ?_
            refine g_goto C 33 dX4_leader_50 (by decide) ?_
            refine g_lv [1, 2, 3, 0] (lv' := [(0, .ref m), (1, .int x), (2, .int y), (3, .int x47)]) rfl ?_
            exact ih33 (x47) (upd (lk) (k) (sB (u8 x44))) (k + 1) (by omega) (by omega) (by omega) (by rw [hf, u8_of (n := 32) e44 (by omega)]; exact fill_step _ _ _)
      refine g_lv [1, 2, 3, 0] (lv' := [(0, .ref m), (1, .int x), (2, .int y), (3, .int x31)]) rfl ?_
      exact loop33 _ (x31) (lf) (0) (Nat.lt_succ_self _) (by omega) (by omega) (by funext j; simp)
  · replace e6 := bl0 e6 c9
    refine g_iconst C dX4_leader_12 (by decide) (fun x12 e12 => ?_)
    exact g_iret C F dX4_leader_13 rfl (nz_b x12 (by omega)) (Nat.le_refl _) (Nat.le_refl _) (by exact ⟨_, _, _, _, _, rfl, e1, Or.inr ⟨by omega, by omega, rfl, rfl, rfl⟩, rfl⟩)
set_option maxHeartbeats 4000000 in
set_option maxRecDepth 10000 in
theorem c_X4_subfield (l : Launch) (E : GE) (m tb sb yb : Nat) (tf sf yf : Nat → Int32) (te nf : Int32) (fl : FL) (t0 x y z u : Int32) (z1 z2 z3 z5 z10 z11 z12 z13 z14 z15 : Value) (hM : MPr te nf tf sf yf fl) (hF : FW fl) : Ctr l E yX4_subfield cX4_subfield 9 (some .int) 1 (0) (0) [.ref m, .int x, .int y, .int z, .int u] [(m, .inr (6, [.int t0, z1, z2, z3, .int te, z5, .ref tb, .ref yb, .ref sb, .int nf, z10, z11, z12, z13, z14, z15])), (tb, aI E (60) (tf)), (sb, aI E (60) (sf)), (yb, aB E (114000) (yf))] (fun v w => ∃ (r t : Int32), v = some (.int r) ∧ t.toInt = 0 ∧ (r.toInt = sfS fl x.toInt y.toInt z.toInt u.toInt) ∧ w = [(m, .inr (6, [.int t, z1, z2, z3, .int te, z5, .ref tb, .ref yb, .ref sb, .int nf, z10, z11, z12, z13, z14, z15])), (tb, aI E (60) (tf)), (sb, aI E (60) (sf)), (yb, aB E (114000) (yf))]) := by
  refine Ctr.intro (by decide) (Nat.le_of_ble_eq_true rfl) (fun g hgl hN C r F hi => ?_)
  subst hgl
  have hte := hM.te
  have hin : te.toInt ≠ 0 → nf.toInt = (fl.length : Int) := fun h => (hM.in h).1
  have hno := hM.no
  have hnf := hM.nf hF
  have hfl := hF.1
  have hu := ti_hi u
  change G E g [(m, .inr (6, [.int t0, z1, z2, z3, .int te, z5, .ref tb, .ref yb, .ref sb, .int nf, z10, z11, z12, z13, z14, z15])), (tb, aI E (60) (tf)), (sb, aI E (60) (sf)), (yb, aB E (114000) (yf))] 0 0 0 [(0, .ref m), (1, .int x), (2, .int y), (3, .int z), (4, .int u)] []
  refine g_aload_n C dX4_subfield_0 0 rfl ?_
  refine g_iconst C dX4_subfield_1 (by decide) (fun x1 e1 => ?_)
  refine gp_X4_37 C 0 rfl (Nat.le_of_ble_eq_true rfl) rfl rfl dX4_subfield_2 ?_
  change G E g [(m, .inr (6, [.int x1, z1, z2, z3, .int te, z5, .ref tb, .ref yb, .ref sb, .int nf, z10, z11, z12, z13, z14, z15])), (tb, aI E (60) (tf)), (sb, aI E (60) (sf)), (yb, aB E (114000) (yf))] _ _ _ _ _
  refine g_aload_n C dX4_subfield_5 0 rfl ?_
  refine g_iload_n C dX4_subfield_6 1 rfl ?_
  refine g_callV C r mv_X4_101 dX4_subfield_7 (c_X4_isField g.l E m te nf x (.int x1) (z1) (z2) (z3) (z5) (.ref tb) (.ref yb) (.ref sb) (z10) (z11) (z12) (z13) (z14) (z15)) (wr := [(tb, aI E (60) (tf)), (sb, aI E (60) (sf)), (yb, aB E (114000) (yf))]) (As := [.int x]) (rest := []) (Spl.at [1, 2, 3] [0] rfl rfl rfl) 0 rfl rfl rfl rfl (Nat.le_of_ble_eq_true rfl) (by decide) (Nat.le_refl _) (Nat.le_refl _) (fun v w h => ?_)
  obtain ⟨x7, rfl, e7, rfl⟩ := h
  change G E g [(tb, aI E (60) (tf)), (sb, aI E (60) (sf)), (yb, aB E (114000) (yf)), (m, .inr (6, [.int x1, z1, z2, z3, .int te, z5, .ref tb, .ref yb, .ref sb, .int nf, z10, z11, z12, z13, z14, z15]))] _ _ _ _ [.int x7]
  refine g_if_eq C 18 dX4_subfield_10 (by decide) (fun c10 => ?_) (fun c10 => ?_)
  · replace e7 := bl0 e7 c10
    refine g_iconst C dX4_subfield_18 (by decide) (fun x18 e18 => ?_)
    refine g_perm [3, 0, 1, 2] rfl (ws' := [(m, .inr (6, [.int x1, z1, z2, z3, .int te, z5, .ref tb, .ref yb, .ref sb, .int nf, z10, z11, z12, z13, z14, z15])), (tb, aI E (60) (tf)), (sb, aI E (60) (sf)), (yb, aB E (114000) (yf))]) rfl ?_
    exact g_iret C F dX4_subfield_19 rfl rfl (Nat.le_refl _) (Nat.le_refl _) (by refine ⟨_, _, rfl, e1, ?_, rfl⟩; rw [sfS_0 (by omega)]; omega)
  · replace e7 := bl1 e7 c10
    refine g_iload C dX4_subfield_13 4 rfl ?_
    refine g_if_ge C 20 dX4_subfield_15 (by decide) (fun c15 => ?_) (fun c15 => ?_)
    · obtain ⟨hn1, hMF⟩ := hM.in (by omega)
      obtain ⟨hT, hL, hBs⟩ := hMF (x.toInt.toNat - 1) (by omega)
      obtain ⟨hW1, hW2, hW3, hW4, hW5⟩ := hF.2 (x.toInt.toNat - 1) (by omega)
      have hg : ¬ (¬ (0 < x.toInt ∧ x.toInt ≤ (fl.length : Int)) ∨ u.toInt < 0) := by omega
      have hx1 : 0 < x.toInt ∧ x.toInt ≤ 60 ∧ 0 ≤ u.toInt := by omega
      clear hte hnf hin hno hn1 e7 c10 c15
      refine g_aload_n C dX4_subfield_20 0 rfl ?_
      refine gf_X4_24 C 3 rfl rfl dX4_subfield_21 ?_
      refine g_iload_n C dX4_subfield_24 1 rfl ?_
      refine g_iconst C dX4_subfield_25 (by decide) (fun x25 e25 => ?_)
      refine g_isub C dX4_subfield_26 (by omega) (fun x26 e26 => ?_)
      refine g_iaload C 1 rfl dX4_subfield_27 ((x.toInt.toNat - 1)) (by omega) (by omega) (fun x27 e27 => ?_)
      have t27 := congrArg Int32.toInt e27
      refine g_istore C dX4_subfield_28 (by rw [hN]; decide) (lv' := [(5, .int x27), (0, .ref m), (1, .int x), (2, .int y), (3, .int z), (4, .int u)]) rfl ?_
      refine g_aload_n C dX4_subfield_30 1 rfl ?_
      refine gf_X4_16 C 3 rfl rfl dX4_subfield_31 ?_
      refine g_iload_n C dX4_subfield_34 2 rfl ?_
      refine g_iconst C dX4_subfield_35 (by decide) (fun x35 e35 => ?_)
      refine g_isub C dX4_subfield_36 (by omega) (fun x36 e36 => ?_)
      refine g_iaload C 0 rfl dX4_subfield_37 ((x.toInt.toNat - 1)) (by omega) (by omega) (fun x37 e37 => ?_)
      have t37 := congrArg Int32.toInt e37
      refine g_bipush C dX4_subfield_38 (by decide) (fun x38 e38 => ?_)
      refine g_icmp_ge C 62 dX4_subfield_40 (by decide) (fun c40 => ?_) (fun c40 => ?_)
      · have h9 : 9 < fT fl (x.toInt.toNat - 1) := by omega
        have hlen : 2 ≤ (fB fl (x.toInt.toNat - 1)).length := (hW4 h9).1
        have hNL := (hW4 h9).2
        have hn5 : x27.toInt = ((fB fl (x.toInt.toNat - 1)).length : Int) := by omega
        have hdl : ((fB fl (x.toInt.toNat - 1)).drop 2).length = (fB fl (x.toInt.toNat - 1)).length - 2 := by simp
        have hs2 := sfS_2 (fl := fl) (x := x.toInt) (i := y.toInt) (code := z.toInt) (k := u.toInt) hg h9
        clear e25 e26 e27 t27 e35 e36 e37 t37 e38 c40 hW4 hW5 hT hL
        refine g_iconst C dX4_subfield_62 (by decide) (fun x62 e62 => ?_)
        refine g_istore C dX4_subfield_63 (by rw [hN]; decide) (lv' := [(6, .int x62), (5, .int x27), (0, .ref m), (1, .int x), (2, .int y), (3, .int z), (4, .int u)]) rfl ?_
        refine g_iconst C dX4_subfield_65 (by decide) (fun x65 e65 => ?_)
        refine g_istore C dX4_subfield_66 (by rw [hN]; decide) (lv' := [(7, .int x65), (6, .int x62), (5, .int x27), (0, .ref m), (1, .int x), (2, .int y), (3, .int z), (4, .int u)]) rfl ?_
        have loop68 : ∀ (nn : Nat) (n6 : Int32) (n7 : Int32) (p : Nat) (hm : (fB fl (x.toInt.toNat - 1)).length - p < nn) (hp : 2 ≤ p ∧ p ≤ (fB fl (x.toInt.toNat - 1)).length) (h7 : n7.toInt = (p : Int)) (h6 : 0 ≤ n6.toInt ∧ n6.toInt ≤ (p : Int)) (hn : sIx ((fB fl (x.toInt.toNat - 1)).drop 2) z.toInt y.toInt (((fB fl (x.toInt.toNat - 1)).drop 2).length - 1) 0 0 = sIx ((fB fl (x.toInt.toNat - 1)).drop 2) z.toInt y.toInt (((fB fl (x.toInt.toNat - 1)).drop 2).length - 1 - (p - 2)) (p - 2) n6.toInt), G E g [(m, .inr (6, [.int x1, z1, z2, z3, .int te, z5, .ref tb, .ref yb, .ref sb, .int nf, z10, z11, z12, z13, z14, z15])), (tb, aI E (60) (tf)), (sb, aI E (60) (sf)), (yb, aB E (114000) (yf))] 0 0 68 [(0, .ref m), (1, .int x), (2, .int y), (3, .int z), (4, .int u), (5, .int x27), (6, .int n6), (7, .int n7)] [] := by
          intro nn
          induction nn with
          | zero => intro n6 n7 p hm hp h7 h6 hn; omega
          | succ nn ih68 =>
            intro n6 n7 p hm hp h7 h6 hn
            refine g_iload C dX4_subfield_68 7 rfl ?_
            refine g_iload C dX4_subfield_70 5 rfl ?_
            refine g_icmp_ge C 205 dX4_subfield_72 (by decide) (fun c72 => ?_) (fun c72 => ?_)
            · refine g_iconst C dX4_subfield_205 (by decide) (fun x205 e205 => ?_)
              exact g_iret C F dX4_subfield_206 rfl rfl (Nat.le_refl _) (Nat.le_refl _) (by refine ⟨_, _, rfl, e1, ?_, rfl⟩; rw [hs2]; rw [sfB_no (by rw [hn, sIx_zero (by omega)])]; omega)
            · refine g_iload_n C dX4_subfield_75 2 rfl ?_
              refine g_if_lt C 205 dX4_subfield_76 (by decide) (fun c76 => ?_) (fun c76 => ?_)
              · refine g_iconst C dX4_subfield_205 (by decide) (fun x205 e205 => ?_)
                exact g_iret C F dX4_subfield_206 rfl rfl (Nat.le_refl _) (Nat.le_refl _) (by refine ⟨_, _, rfl, e1, ?_, rfl⟩; rw [hs2]; rw [sfB_no (sIx_neg (by omega) _ _ _ (by omega))]; omega)
              · refine g_aload_n C dX4_subfield_79 0 rfl ?_
                refine g_iload_n C dX4_subfield_80 1 rfl ?_
                refine g_iload C dX4_subfield_81 7 rfl ?_
                refine g_callV C r mv_X4_104 dX4_subfield_83 (c_X4_at g.l E m yb yf x n7 ((x.toInt.toNat - 1)) (p) (.int x1) (z1) (z2) (z3) (.int te) (z5) (.ref tb) (.ref sb) (.int nf) (z10) (z11) (z12) (z13) (z14) (z15) (by omega) (by omega) (by omega) (by omega)) (wr := [(tb, aI E (60) (tf)), (sb, aI E (60) (sf))]) (As := [.int x, .int n7]) (rest := []) (Spl.at [1, 2] [0, 3] rfl rfl rfl) 0 rfl rfl rfl rfl (Nat.le_of_ble_eq_true rfl) (by decide) (Nat.le_refl _) (Nat.le_refl _) (fun v w h => ?_)
                obtain ⟨x83, rfl, e83, rfl⟩ := h
                change G E g [(tb, aI E (60) (tf)), (sb, aI E (60) (sf)), (m, .inr (6, [.int x1, z1, z2, z3, .int te, z5, .ref tb, .ref yb, .ref sb, .int nf, z10, z11, z12, z13, z14, z15])), (yb, aB E (114000) (yf))] _ _ _ _ [.int x83]
                rw [Bs_at hBs hW2 (by omega)] at e83
                refine g_bipush C dX4_subfield_86 (by decide) (fun x86 e86 => ?_)
                refine g_icmp_ne C 199 dX4_subfield_88 (by decide) (fun c88 => ?_) (fun c88 => ?_)
                · refine g_iinc C dX4_subfield_199 7 rfl (by rw [hN]; decide) (by decide) (by omega) (fun x199 e199 => ?_)
                  refine g_lvE (lv' := [(7, .int x199), (0, .ref m), (1, .int x), (2, .int y), (3, .int z), (4, .int u), (5, .int x27), (6, .int n6)]) rfl ?_
                  refine g_goto C 68 dX4_subfield_202 (by decide) ?_
                  refine g_lv [1, 2, 3, 4, 5, 6, 7, 0] (lv' := [(0, .ref m), (1, .int x), (2, .int y), (3, .int z), (4, .int u), (5, .int x27), (6, .int n6), (7, .int x199)]) rfl ?_
                  refine g_perm [2, 0, 1, 3] rfl (ws' := [(m, .inr (6, [.int x1, z1, z2, z3, .int te, z5, .ref tb, .ref yb, .ref sb, .int nf, z10, z11, z12, z13, z14, z15])), (tb, aI E (60) (tf)), (sb, aI E (60) (sf)), (yb, aB E (114000) (yf))]) rfl ?_
                  exact ih68 (n6) (x199) (p + 1) (by omega) (by omega) (by omega) (by omega) (by rw [hn, sIx_adv (by rw [dr_get hp.1]; omega), show ((fB fl (x.toInt.toNat - 1)).drop 2).length - 1 - (p - 2) - 1 = ((fB fl (x.toInt.toNat - 1)).drop 2).length - 1 - (p + 1 - 2) by omega, show p - 2 + 1 = p + 1 - 2 by omega])
                · refine g_aload_n C dX4_subfield_91 0 rfl ?_
                  refine g_iload_n C dX4_subfield_92 1 rfl ?_
                  refine g_iload C dX4_subfield_93 7 rfl ?_
                  refine g_iconst C dX4_subfield_95 (by decide) (fun x95 e95 => ?_)
                  refine g_iadd C dX4_subfield_96 (by omega) (fun x96 e96 => ?_)
                  refine g_callV C r mv_X4_104 dX4_subfield_97 (c_X4_at g.l E m yb yf x x96 ((x.toInt.toNat - 1)) (p + 1) (.int x1) (z1) (z2) (z3) (.int te) (z5) (.ref tb) (.ref sb) (.int nf) (z10) (z11) (z12) (z13) (z14) (z15) (by omega) (by omega) (by omega) (by omega)) (wr := [(tb, aI E (60) (tf)), (sb, aI E (60) (sf))]) (As := [.int x, .int x96]) (rest := []) (Spl.at [0, 1] [2, 3] rfl rfl rfl) 0 rfl rfl rfl rfl (Nat.le_of_ble_eq_true rfl) (by decide) (Nat.le_refl _) (Nat.le_refl _) (fun v w h => ?_)
                  obtain ⟨x97, rfl, e97, rfl⟩ := h
                  change G E g [(tb, aI E (60) (tf)), (sb, aI E (60) (sf)), (m, .inr (6, [.int x1, z1, z2, z3, .int te, z5, .ref tb, .ref yb, .ref sb, .int nf, z10, z11, z12, z13, z14, z15])), (yb, aB E (114000) (yf))] _ _ _ _ [.int x97]
                  have hp1 := lC_in (by omega) (by omega) hNL (by omega : (fB fl (x.toInt.toNat - 1)).getD p 0 = 31)
                  rw [Bs_at hBs hW2 hp1] at e97
                  refine g_iload_n C dX4_subfield_100 3 rfl ?_
                  refine g_icmp_ne C 199 dX4_subfield_101 (by decide) (fun c101 => ?_) (fun c101 => ?_)
                  · refine g_iinc C dX4_subfield_199 7 rfl (by rw [hN]; decide) (by decide) (by omega) (fun x199 e199 => ?_)
                    refine g_lvE (lv' := [(7, .int x199), (0, .ref m), (1, .int x), (2, .int y), (3, .int z), (4, .int u), (5, .int x27), (6, .int n6)]) rfl ?_
                    refine g_goto C 68 dX4_subfield_202 (by decide) ?_
                    refine g_lv [1, 2, 3, 4, 5, 6, 7, 0] (lv' := [(0, .ref m), (1, .int x), (2, .int y), (3, .int z), (4, .int u), (5, .int x27), (6, .int n6), (7, .int x199)]) rfl ?_
                    refine g_perm [2, 0, 1, 3] rfl (ws' := [(m, .inr (6, [.int x1, z1, z2, z3, .int te, z5, .ref tb, .ref yb, .ref sb, .int nf, z10, z11, z12, z13, z14, z15])), (tb, aI E (60) (tf)), (sb, aI E (60) (sf)), (yb, aB E (114000) (yf))]) rfl ?_
                    exact ih68 (n6) (x199) (p + 1) (by omega) (by omega) (by omega) (by omega) (by rw [hn, sIx_adv (Or.inl (by rw [dr_get hp.1, sf_d1 hp.1]; omega)), show ((fB fl (x.toInt.toNat - 1)).drop 2).length - 1 - (p - 2) - 1 = ((fB fl (x.toInt.toNat - 1)).drop 2).length - 1 - (p + 1 - 2) by omega, show p - 2 + 1 = p + 1 - 2 by omega])
                  · refine g_iload C dX4_subfield_104 6 rfl ?_
                    refine g_iload_n C dX4_subfield_106 2 rfl ?_
                    refine g_icmp_ne C 196 dX4_subfield_107 (by decide) (fun c107 => ?_) (fun c107 => ?_)
                    · refine g_iinc C dX4_subfield_196 6 rfl (by rw [hN]; decide) (by decide) (by omega) (fun x196 e196 => ?_)
                      refine g_lvE (lv' := [(6, .int x196), (0, .ref m), (1, .int x), (2, .int y), (3, .int z), (4, .int u), (5, .int x27), (7, .int n7)]) rfl ?_
                      refine g_iinc C dX4_subfield_199 7 rfl (by rw [hN]; decide) (by decide) (by omega) (fun x199 e199 => ?_)
                      refine g_lvE (lv' := [(7, .int x199), (6, .int x196), (0, .ref m), (1, .int x), (2, .int y), (3, .int z), (4, .int u), (5, .int x27)]) rfl ?_
                      refine g_goto C 68 dX4_subfield_202 (by decide) ?_
                      refine g_lv [2, 3, 4, 5, 6, 7, 1, 0] (lv' := [(0, .ref m), (1, .int x), (2, .int y), (3, .int z), (4, .int u), (5, .int x27), (6, .int x196), (7, .int x199)]) rfl ?_
                      refine g_perm [2, 0, 1, 3] rfl (ws' := [(m, .inr (6, [.int x1, z1, z2, z3, .int te, z5, .ref tb, .ref yb, .ref sb, .int nf, z10, z11, z12, z13, z14, z15])), (tb, aI E (60) (tf)), (sb, aI E (60) (sf)), (yb, aB E (114000) (yf))]) rfl ?_
                      exact ih68 (x196) (x199) (p + 1) (by omega) (by omega) (by omega) (by omega) (by rw [hn, sIx_go (by rw [dr_get hp.1, sf_d1 hp.1]; omega) (by omega) (by omega), ← e196, show ((fB fl (x.toInt.toNat - 1)).drop 2).length - 1 - (p - 2) - 1 = ((fB fl (x.toInt.toNat - 1)).drop 2).length - 1 - (p + 1 - 2) by omega, show p - 2 + 1 = p + 1 - 2 by omega])
                    · have hst : sIx ((fB fl (x.toInt.toNat - 1)).drop 2) z.toInt y.toInt (((fB fl (x.toInt.toNat - 1)).drop 2).length - 1) 0 0 = (p : Int) := by rw [hn, sIx_yes (by rw [dr_get hp.1, sf_d1 hp.1]; omega) (by omega) (by omega)]; omega
                      clear hn ih68
                      refine g_iload C dX4_subfield_110 7 rfl ?_
                      refine g_iconst C dX4_subfield_112 (by decide) (fun x112 e112 => ?_)
                      refine g_iadd C dX4_subfield_113 (by omega) (fun x113 e113 => ?_)
                      refine g_istore C dX4_subfield_114 (by rw [hN]; decide) (lv' := [(8, .int x113), (0, .ref m), (1, .int x), (2, .int y), (3, .int z), (4, .int u), (5, .int x27), (6, .int n6), (7, .int n7)]) rfl ?_
                      have loop116 : ∀ (nn : Nat) (n8 : Int32) (q : Nat) (hm : (fB fl (x.toInt.toNat - 1)).length - q < nn) (hq : p + 2 ≤ q ∧ q ≤ (fB fl (x.toInt.toNat - 1)).length ∧ (q : Int) ≤ (p : Int) + 2 + u.toInt) (h8 : n8.toInt = (q : Int)) (hen : sEn ((fB fl (x.toInt.toNat - 1)).drop 2) (((fB fl (x.toInt.toNat - 1)).drop 2).length - p) p = sEn ((fB fl (x.toInt.toNat - 1)).drop 2) (((fB fl (x.toInt.toNat - 1)).drop 2).length - (q - 2)) (q - 2)), G E g [(m, .inr (6, [.int x1, z1, z2, z3, .int te, z5, .ref tb, .ref yb, .ref sb, .int nf, z10, z11, z12, z13, z14, z15])), (tb, aI E (60) (tf)), (sb, aI E (60) (sf)), (yb, aB E (114000) (yf))] 0 0 116 [(0, .ref m), (1, .int x), (2, .int y), (3, .int z), (4, .int u), (5, .int x27), (6, .int n6), (7, .int n7), (8, .int n8)] [] := by
                        intro nn
                        induction nn with
                        | zero => intro n8 q hm hq h8 hen; omega
                        | succ nn ih116 =>
                          intro n8 q hm hq h8 hen
                          have J153 : ∀ (_ : True) (hex : (fB fl (x.toInt.toNat - 1)).length ≤ q ∨ (fB fl (x.toInt.toNat - 1)).getD q 0 = 31 ∨ (p : Int) + 2 + u.toInt ≤ (q : Int) ∨ 2147483648 ≤ (p : Int) + 2 + u.toInt), G E g [(m, .inr (6, [.int x1, z1, z2, z3, .int te, z5, .ref tb, .ref yb, .ref sb, .int nf, z10, z11, z12, z13, z14, z15])), (tb, aI E (60) (tf)), (sb, aI E (60) (sf)), (yb, aB E (114000) (yf))] 0 0 153 [(0, .ref m), (1, .int x), (2, .int y), (3, .int z), (4, .int u), (5, .int x27), (6, .int n6), (7, .int n7), (8, .int n8)] [] := by
                            intro _ hex
                            refine g_iload C dX4_subfield_153 8 rfl ?_
                            refine g_iload C dX4_subfield_155 5 rfl ?_
                            refine g_icmp_ge C 194 dX4_subfield_157 (by decide) (fun c157 => ?_) (fun c157 => ?_)
                            · refine g_iconst C dX4_subfield_194 (by decide) (fun x194 e194 => ?_)
                              exact g_iret C F dX4_subfield_195 rfl rfl (Nat.le_refl _) (Nat.le_refl _) (by refine ⟨_, _, rfl, e1, ?_, rfl⟩; rw [hs2]; by_cases hbg : (((fB fl (x.toInt.toNat - 1)).drop 2).length : Int) ≤ u.toInt; rw [sfB_big hbg]; omega; rw [sfB_out hst hen (by omega) (by rw [dr_get (by omega)]; omega)]; omega)
                            · refine g_iload C dX4_subfield_160 8 rfl ?_
                              refine g_iload C dX4_subfield_162 7 rfl ?_
                              refine g_iconst C dX4_subfield_164 (by decide) (fun x164 e164 => ?_)
                              refine g_iadd C dX4_subfield_165 (by omega) (fun x165 e165 => ?_)
                              refine g_iload C dX4_subfield_166 4 rfl ?_
                              refine g_iaddO C dX4_subfield_168 (by omega) (by omega) (fun x168 e168 => ?_)
                              refine g_icmp_ne C 194 dX4_subfield_169 (by decide) (fun c169 => ?_) (fun c169 => ?_)
                              · refine g_iconst C dX4_subfield_194 (by decide) (fun x194 e194 => ?_)
                                exact g_iret C F dX4_subfield_195 rfl rfl (Nat.le_refl _) (Nat.le_refl _) (by refine ⟨_, _, rfl, e1, ?_, rfl⟩; rw [hs2]; by_cases hbg : (((fB fl (x.toInt.toNat - 1)).drop 2).length : Int) ≤ u.toInt; rw [sfB_big hbg]; omega; rw [sfB_out hst hen (by omega) (by rw [dr_get (by omega)]; omega)]; omega)
                              · refine g_aload_n C dX4_subfield_172 0 rfl ?_
                                refine g_iload_n C dX4_subfield_173 1 rfl ?_
                                refine g_iload C dX4_subfield_174 8 rfl ?_
                                refine g_callV C r mv_X4_104 dX4_subfield_176 (c_X4_at g.l E m yb yf x n8 ((x.toInt.toNat - 1)) (q) (.int x1) (z1) (z2) (z3) (.int te) (z5) (.ref tb) (.ref sb) (.int nf) (z10) (z11) (z12) (z13) (z14) (z15) (by omega) (by omega) (by omega) (by omega)) (wr := [(tb, aI E (60) (tf)), (sb, aI E (60) (sf))]) (As := [.int x, .int n8]) (rest := []) (Spl.at [1, 2] [0, 3] rfl rfl rfl) 0 rfl rfl rfl rfl (Nat.le_of_ble_eq_true rfl) (by decide) (Nat.le_refl _) (Nat.le_refl _) (fun v w h => ?_)
                                obtain ⟨x176, rfl, e176, rfl⟩ := h
                                change G E g [(tb, aI E (60) (tf)), (sb, aI E (60) (sf)), (m, .inr (6, [.int x1, z1, z2, z3, .int te, z5, .ref tb, .ref yb, .ref sb, .int nf, z10, z11, z12, z13, z14, z15])), (yb, aB E (114000) (yf))] _ _ _ _ [.int x176]
                                rw [Bs_at hBs hW2 (by omega)] at e176
                                refine g_bipush C dX4_subfield_179 (by decide) (fun x179 e179 => ?_)
                                refine g_icmp_eq C 194 dX4_subfield_181 (by decide) (fun c181 => ?_) (fun c181 => ?_)
                                · refine g_iconst C dX4_subfield_194 (by decide) (fun x194 e194 => ?_)
                                  refine g_perm [2, 0, 1, 3] rfl (ws' := [(m, .inr (6, [.int x1, z1, z2, z3, .int te, z5, .ref tb, .ref yb, .ref sb, .int nf, z10, z11, z12, z13, z14, z15])), (tb, aI E (60) (tf)), (sb, aI E (60) (sf)), (yb, aB E (114000) (yf))]) rfl ?_
                                  exact g_iret C F dX4_subfield_195 rfl rfl (Nat.le_refl _) (Nat.le_refl _) (by refine ⟨_, _, rfl, e1, ?_, rfl⟩; rw [hs2]; by_cases hbg : (((fB fl (x.toInt.toNat - 1)).drop 2).length : Int) ≤ u.toInt; rw [sfB_big hbg]; omega; rw [sfB_out hst hen (by omega) (by rw [dr_get (by omega)]; omega)]; omega)
                                · refine g_aload_n C dX4_subfield_184 0 rfl ?_
                                  refine g_iload_n C dX4_subfield_185 1 rfl ?_
                                  refine g_iload C dX4_subfield_186 8 rfl ?_
                                  refine g_callV C r mv_X4_104 dX4_subfield_188 (c_X4_at g.l E m yb yf x n8 ((x.toInt.toNat - 1)) (q) (.int x1) (z1) (z2) (z3) (.int te) (z5) (.ref tb) (.ref sb) (.int nf) (z10) (z11) (z12) (z13) (z14) (z15) (by omega) (by omega) (by omega) (by omega)) (wr := [(tb, aI E (60) (tf)), (sb, aI E (60) (sf))]) (As := [.int x, .int n8]) (rest := []) (Spl.at [0, 1] [2, 3] rfl rfl rfl) 0 rfl rfl rfl rfl (Nat.le_of_ble_eq_true rfl) (by decide) (Nat.le_refl _) (Nat.le_refl _) (fun v w h => ?_)
                                  obtain ⟨x188, rfl, e188, rfl⟩ := h
                                  change G E g [(tb, aI E (60) (tf)), (sb, aI E (60) (sf)), (m, .inr (6, [.int x1, z1, z2, z3, .int te, z5, .ref tb, .ref yb, .ref sb, .int nf, z10, z11, z12, z13, z14, z15])), (yb, aB E (114000) (yf))] _ _ _ _ [.int x188]
                                  rw [Bs_at hBs hW2 (by omega)] at e188
                                  refine g_goto C 195 dX4_subfield_191 (by decide) ?_
                                  refine g_perm [2, 0, 1, 3] rfl (ws' := [(m, .inr (6, [.int x1, z1, z2, z3, .int te, z5, .ref tb, .ref yb, .ref sb, .int nf, z10, z11, z12, z13, z14, z15])), (tb, aI E (60) (tf)), (sb, aI E (60) (sf)), (yb, aB E (114000) (yf))]) rfl ?_
                                  exact g_iret C F dX4_subfield_195 rfl rfl (Nat.le_refl _) (Nat.le_refl _) (by refine ⟨_, _, rfl, e1, ?_, rfl⟩; rw [hs2]; rw [sfB_at hst hen (by omega) (by omega) (by omega) (by rw [dr_get (by omega)]; omega), dr_get (by omega)]; exact e188)
                          refine g_iload C dX4_subfield_116 8 rfl ?_
                          refine g_iload C dX4_subfield_118 5 rfl ?_
                          refine g_icmp_ge C 153 dX4_subfield_120 (by decide) (fun c120 => ?_) (fun c120 => ?_)
                          · refine g_lv [0, 1, 2, 3, 4, 5, 6, 7, 8] (lv' := [(0, .ref m), (1, .int x), (2, .int y), (3, .int z), (4, .int u), (5, .int x27), (6, .int n6), (7, .int n7), (8, .int n8)]) rfl ?_
                            exact J153 trivial (by omega)
                          · refine g_aload_n C dX4_subfield_123 0 rfl ?_
                            refine g_iload_n C dX4_subfield_124 1 rfl ?_
                            refine g_iload C dX4_subfield_125 8 rfl ?_
                            refine g_callV C r mv_X4_104 dX4_subfield_127 (c_X4_at g.l E m yb yf x n8 ((x.toInt.toNat - 1)) (q) (.int x1) (z1) (z2) (z3) (.int te) (z5) (.ref tb) (.ref sb) (.int nf) (z10) (z11) (z12) (z13) (z14) (z15) (by omega) (by omega) (by omega) (by omega)) (wr := [(tb, aI E (60) (tf)), (sb, aI E (60) (sf))]) (As := [.int x, .int n8]) (rest := []) (Spl.at [1, 2] [0, 3] rfl rfl rfl) 0 rfl rfl rfl rfl (Nat.le_of_ble_eq_true rfl) (by decide) (Nat.le_refl _) (Nat.le_refl _) (fun v w h => ?_)
                            obtain ⟨x127, rfl, e127, rfl⟩ := h
                            change G E g [(tb, aI E (60) (tf)), (sb, aI E (60) (sf)), (m, .inr (6, [.int x1, z1, z2, z3, .int te, z5, .ref tb, .ref yb, .ref sb, .int nf, z10, z11, z12, z13, z14, z15])), (yb, aB E (114000) (yf))] _ _ _ _ [.int x127]
                            rw [Bs_at hBs hW2 (by omega)] at e127
                            refine g_bipush C dX4_subfield_130 (by decide) (fun x130 e130 => ?_)
                            refine g_icmp_eq C 153 dX4_subfield_132 (by decide) (fun c132 => ?_) (fun c132 => ?_)
                            · refine g_lv [0, 1, 2, 3, 4, 5, 6, 7, 8] (lv' := [(0, .ref m), (1, .int x), (2, .int y), (3, .int z), (4, .int u), (5, .int x27), (6, .int n6), (7, .int n7), (8, .int n8)]) rfl ?_
                              refine g_perm [2, 0, 1, 3] rfl (ws' := [(m, .inr (6, [.int x1, z1, z2, z3, .int te, z5, .ref tb, .ref yb, .ref sb, .int nf, z10, z11, z12, z13, z14, z15])), (tb, aI E (60) (tf)), (sb, aI E (60) (sf)), (yb, aB E (114000) (yf))]) rfl ?_
                              exact J153 trivial (by omega)
                            · refine g_iload C dX4_subfield_135 8 rfl ?_
                              refine g_iload C dX4_subfield_137 7 rfl ?_
                              refine g_iconst C dX4_subfield_139 (by decide) (fun x139 e139 => ?_)
                              refine g_iadd C dX4_subfield_140 (by omega) (fun x140 e140 => ?_)
                              refine g_iload C dX4_subfield_141 4 rfl ?_
                              refine g_iaddO C dX4_subfield_143 (by omega) (by omega) (fun x143 e143 => ?_)
                              refine g_icmp_ge C 153 dX4_subfield_144 (by decide) (fun c144 => ?_) (fun c144 => ?_)
                              · refine g_lv [0, 1, 2, 3, 4, 5, 6, 7, 8] (lv' := [(0, .ref m), (1, .int x), (2, .int y), (3, .int z), (4, .int u), (5, .int x27), (6, .int n6), (7, .int n7), (8, .int n8)]) rfl ?_
                                refine g_perm [2, 0, 1, 3] rfl (ws' := [(m, .inr (6, [.int x1, z1, z2, z3, .int te, z5, .ref tb, .ref yb, .ref sb, .int nf, z10, z11, z12, z13, z14, z15])), (tb, aI E (60) (tf)), (sb, aI E (60) (sf)), (yb, aB E (114000) (yf))]) rfl ?_
                                exact J153 trivial (by omega)
                              · refine g_iinc C dX4_subfield_147 8 rfl (by rw [hN]; decide) (by decide) (by omega) (fun x147 e147 => ?_)
                                refine g_lvE (lv' := [(8, .int x147), (0, .ref m), (1, .int x), (2, .int y), (3, .int z), (4, .int u), (5, .int x27), (6, .int n6), (7, .int n7)]) rfl ?_
                                refine g_goto C 116 dX4_subfield_150 (by decide) ?_
                                refine g_lv [1, 2, 3, 4, 5, 6, 7, 8, 0] (lv' := [(0, .ref m), (1, .int x), (2, .int y), (3, .int z), (4, .int u), (5, .int x27), (6, .int n6), (7, .int n7), (8, .int x147)]) rfl ?_
                                refine g_perm [2, 0, 1, 3] rfl (ws' := [(m, .inr (6, [.int x1, z1, z2, z3, .int te, z5, .ref tb, .ref yb, .ref sb, .int nf, z10, z11, z12, z13, z14, z15])), (tb, aI E (60) (tf)), (sb, aI E (60) (sf)), (yb, aB E (114000) (yf))]) rfl ?_
                                exact ih116 (x147) (q + 1) (by omega) (by omega) (by omega) (by rw [hen, sEn_miss (by rw [dr_get (by omega)]; omega) (by omega), show ((fB fl (x.toInt.toNat - 1)).drop 2).length - (q - 2) - 1 = ((fB fl (x.toInt.toNat - 1)).drop 2).length - (q + 1 - 2) by omega, show q - 2 + 1 = q + 1 - 2 by omega])
                      refine g_lv [1, 2, 3, 4, 5, 6, 7, 8, 0] (lv' := [(0, .ref m), (1, .int x), (2, .int y), (3, .int z), (4, .int u), (5, .int x27), (6, .int n6), (7, .int n7), (8, .int x113)]) rfl ?_
                      refine g_perm [2, 0, 1, 3] rfl (ws' := [(m, .inr (6, [.int x1, z1, z2, z3, .int te, z5, .ref tb, .ref yb, .ref sb, .int nf, z10, z11, z12, z13, z14, z15])), (tb, aI E (60) (tf)), (sb, aI E (60) (sf)), (yb, aB E (114000) (yf))]) rfl ?_
                      exact loop116 _ (x113) (p + 2) (Nat.lt_succ_self _) (by omega) (by omega) (by rfl)
        refine g_lv [3, 4, 5, 6, 7, 2, 1, 0] (lv' := [(0, .ref m), (1, .int x), (2, .int y), (3, .int z), (4, .int u), (5, .int x27), (6, .int x62), (7, .int x65)]) rfl ?_
        refine g_perm [3, 0, 1, 2] rfl (ws' := [(m, .inr (6, [.int x1, z1, z2, z3, .int te, z5, .ref tb, .ref yb, .ref sb, .int nf, z10, z11, z12, z13, z14, z15])), (tb, aI E (60) (tf)), (sb, aI E (60) (sf)), (yb, aB E (114000) (yf))]) rfl ?_
        exact loop68 _ (x62) (x65) (2) (Nat.lt_succ_self _) (by omega) (by omega) (by omega) (by rw [e62]; rfl)
      · refine g_iload C dX4_subfield_43 5 rfl ?_
        refine g_iload C dX4_subfield_45 0 rfl ?_
        refine g_icmp_ge C 60 dX4_subfield_47 (by decide) (fun c47 => ?_) (fun c47 => ?_)
        · refine g_iconst C dX4_subfield_60 (by decide) (fun x60 e60 => ?_)
          refine g_perm [3, 0, 1, 2] rfl (ws' := [(m, .inr (6, [.int x1, z1, z2, z3, .int te, z5, .ref tb, .ref yb, .ref sb, .int nf, z10, z11, z12, z13, z14, z15])), (tb, aI E (60) (tf)), (sb, aI E (60) (sf)), (yb, aB E (114000) (yf))]) rfl ?_
          exact g_iret C F dX4_subfield_61 rfl rfl (Nat.le_refl _) (Nat.le_refl _) (by refine ⟨_, _, rfl, e1, ?_, rfl⟩; rw [sfS_1 hg (by omega)]; rw [gI_out (by omega)]; omega)
        · refine g_aload_n C dX4_subfield_50 1 rfl ?_
          refine g_iload_n C dX4_subfield_51 2 rfl ?_
          refine g_iload C dX4_subfield_52 5 rfl ?_
          refine g_callV C r mv_X4_104 dX4_subfield_54 (c_X4_at g.l E m yb yf x u ((x.toInt.toNat - 1)) (u.toInt.toNat) (.int x1) (z1) (z2) (z3) (.int te) (z5) (.ref tb) (.ref sb) (.int nf) (z10) (z11) (z12) (z13) (z14) (z15) (by omega) (by omega) (by omega) (by omega)) (wr := [(tb, aI E (60) (tf)), (sb, aI E (60) (sf))]) (As := [.int x, .int u]) (rest := []) (Spl.at [0, 1] [3, 2] rfl rfl rfl) 0 rfl rfl rfl rfl (Nat.le_of_ble_eq_true rfl) (by decide) (Nat.le_refl _) (Nat.le_refl _) (fun v w h => ?_)
          obtain ⟨x54, rfl, e54, rfl⟩ := h
          change G E g [(tb, aI E (60) (tf)), (sb, aI E (60) (sf)), (m, .inr (6, [.int x1, z1, z2, z3, .int te, z5, .ref tb, .ref yb, .ref sb, .int nf, z10, z11, z12, z13, z14, z15])), (yb, aB E (114000) (yf))] _ _ _ _ [.int x54]
          rw [Bs_at hBs hW2 (by omega)] at e54
          refine g_goto C 61 dX4_subfield_57 (by decide) ?_
          refine g_perm [2, 0, 1, 3] rfl (ws' := [(m, .inr (6, [.int x1, z1, z2, z3, .int te, z5, .ref tb, .ref yb, .ref sb, .int nf, z10, z11, z12, z13, z14, z15])), (tb, aI E (60) (tf)), (sb, aI E (60) (sf)), (yb, aB E (114000) (yf))]) rfl ?_
          exact g_iret C F dX4_subfield_61 rfl rfl (Nat.le_refl _) (Nat.le_refl _) (by refine ⟨_, _, rfl, e1, ?_, rfl⟩; rw [sfS_1 hg (by omega)]; rw [e54, show u.toInt = (u.toInt.toNat : Int) by omega, gI_in (by omega)]; rfl)
    · refine g_iconst C dX4_subfield_18 (by decide) (fun x18 e18 => ?_)
      refine g_perm [3, 0, 1, 2] rfl (ws' := [(m, .inr (6, [.int x1, z1, z2, z3, .int te, z5, .ref tb, .ref yb, .ref sb, .int nf, z10, z11, z12, z13, z14, z15])), (tb, aI E (60) (tf)), (sb, aI E (60) (sf)), (yb, aB E (114000) (yf))]) rfl ?_
      exact g_iret C F dX4_subfield_19 rfl rfl (Nat.le_refl _) (Nat.le_refl _) (by refine ⟨_, _, rfl, e1, ?_, rfl⟩; rw [sfS_0 (by omega)]; omega)
