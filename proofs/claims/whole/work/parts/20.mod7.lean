set_option maxHeartbeats 1000000 in
set_option maxRecDepth 10000 in
theorem c_X4_append (l : Launch) (E : GE) (m sb yb : Nat) (sf yf : Nat → Int32) (x y : Int32) (i L : Nat) (z0 z1 z2 z3 z4 z5 z6 z9 z10 z11 z12 z13 z14 z15 : Value) (hx : x.toInt = ((i + 1 : Nat) : Int)) (hi6 : i < 60) (hL : (sf i).toInt = (L : Int)) (hL2 : L < 1900) : Ctr l E yX4_append cX4_append 3 none 0 (0) (0) [.ref m, .int x, .int y] [(m, .inr (6, [z0, z1, z2, z3, z4, z5, z6, .ref yb, .ref sb, z9, z10, z11, z12, z13, z14, z15])), (sb, aI E (60) (sf)), (yb, aB E (114000) (yf))] (fun v w => v = none ∧ ∃ z : Int32, z.toInt = ((L + 1 : Nat) : Int) ∧ w = [(m, .inr (6, [z0, z1, z2, z3, z4, z5, z6, .ref yb, .ref sb, z9, z10, z11, z12, z13, z14, z15])), (sb, aI E (60) (upd sf i z)), (yb, aB E (114000) (upd yf (1900 * i + L) (sB (u8 y))))]) := by
  refine Ctr.intro (by decide) (Nat.le_of_ble_eq_true rfl) (fun g hgl hN C r F hi => ?_)
  subst hgl
  change G E g [(m, .inr (6, [z0, z1, z2, z3, z4, z5, z6, .ref yb, .ref sb, z9, z10, z11, z12, z13, z14, z15])), (sb, aI E (60) (sf)), (yb, aB E (114000) (yf))] 0 0 0 [(0, .ref m), (1, .int x), (2, .int y)] []
  refine g_aload_n C dX4_append_0 0 rfl ?_
  refine gf_X4_21 C 0 rfl rfl dX4_append_1 ?_
  refine g_sipush C dX4_append_4 (by decide) (fun x4 e4 => ?_)
  refine g_iload_n C dX4_append_7 1 rfl ?_
  refine g_iconst C dX4_append_8 (by decide) (fun x8 e8 => ?_)
  refine g_isub C dX4_append_9 (by omega) (fun x9 e9 => ?_)
  refine g_imul C dX4_append_10 (1900 * x9.toInt) (by rw [e4]) (by omega) (fun x10 e10 => ?_)
  refine g_aload_n C dX4_append_11 0 rfl ?_
  refine gf_X4_24 C 0 rfl rfl dX4_append_12 ?_
  refine g_iload_n C dX4_append_15 1 rfl ?_
  refine g_iconst C dX4_append_16 (by decide) (fun x16 e16 => ?_)
  refine g_isub C dX4_append_17 (by omega) (fun x17 e17 => ?_)
  refine g_iaload C 1 rfl dX4_append_18 (i) (by omega) (by omega) (fun x18 e18 => ?_)
  have t18 := congrArg Int32.toInt e18
  refine g_iadd C dX4_append_19 (by omega) (fun x19 e19 => ?_)
  refine g_iload_n C dX4_append_20 2 rfl ?_
  refine g_i2b C dX4_append_21 (fun x21 e21 => ?_)
  refine g_bastore C 2 rfl dX4_append_22 (1900 * i + L) (by omega) (by omega) ?_
  change G E g [(m, .inr (6, [z0, z1, z2, z3, z4, z5, z6, .ref yb, .ref sb, z9, z10, z11, z12, z13, z14, z15])), (sb, aI E (60) (sf)), (yb, aB E (114000) (upd (yf) (1900 * i + L) (sB (u8 x21))))] _ _ _ _ _
  refine g_aload_n C dX4_append_23 0 rfl ?_
  refine gf_X4_24 C 0 rfl rfl dX4_append_24 ?_
  refine g_iload_n C dX4_append_27 1 rfl ?_
  refine g_iconst C dX4_append_28 (by decide) (fun x28 e28 => ?_)
  refine g_isub C dX4_append_29 (by omega) (fun x29 e29 => ?_)
  refine g_dup2 C dX4_append_30 rfl rfl ?_
  refine g_iaload C 1 rfl dX4_append_31 (i) (by omega) (by omega) (fun x31 e31 => ?_)
  have t31 := congrArg Int32.toInt e31
  refine g_iconst C dX4_append_32 (by decide) (fun x32 e32 => ?_)
  refine g_iadd C dX4_append_33 (by omega) (fun x33 e33 => ?_)
  refine g_iastore C 1 rfl dX4_append_34 (i) (by omega) (by omega) ?_
  change G E g [(m, .inr (6, [z0, z1, z2, z3, z4, z5, z6, .ref yb, .ref sb, z9, z10, z11, z12, z13, z14, z15])), (sb, aI E (60) (upd (sf) (i) x33)), (yb, aB E (114000) (upd (yf) (1900 * i + L) (sB (u8 x21))))] _ _ _ _ _
  exact g_vret C F dX4_append_35 (Nat.le_refl _) (Nat.le_refl _) (by exact ⟨rfl, x33, by omega, by rw [e21, sB_u8_sB]⟩)
set_option maxHeartbeats 3000000 in
set_option maxRecDepth 10000 in
theorem c_X4_subfield2 (l : Launch) (E : GE) (m tb sb yb : Nat) (tf sf yf : Nat → Int32) (te nf : Int32) (fl : FL) (t0 x y z : Int32) (z1 z2 z3 z5 z10 z11 z12 z13 z14 z15 : Value) (hM : MPr te nf tf sf yf fl) (hF : FW fl) : Ctr l E yX4_subfield2 cX4_subfield2 6 none 2 (0) (0) [.ref m, .int x, .int y, .int z] [(m, .inr (6, [.int t0, z1, z2, z3, .int te, z5, .ref tb, .ref yb, .ref sb, .int nf, z10, z11, z12, z13, z14, z15])), (tb, aI E (60) (tf)), (sb, aI E (60) (sf)), (yb, aB E (114000) (yf))] (fun v w => v = none ∧ ∃ (t : Int32) (sf2 yf2 : Nat → Int32), t.toInt = 0 ∧ MPr te nf tf sf2 yf2 (sub2 fl x.toInt (u8 y) (u8 z)) ∧ w = [(m, .inr (6, [.int t, z1, z2, z3, .int te, z5, .ref tb, .ref yb, .ref sb, .int nf, z10, z11, z12, z13, z14, z15])), (tb, aI E (60) (tf)), (sb, aI E (60) (sf2)), (yb, aB E (114000) (yf2))]) := by
  refine Ctr.intro (by decide) (Nat.le_of_ble_eq_true rfl) (fun g hgl hN C r F hi => ?_)
  subst hgl
  have hte := hM.te
  have hin : te.toInt ≠ 0 → nf.toInt = (fl.length : Int) := fun h => (hM.in h).1
  have hno := hM.no
  have hnf := hM.nf hF
  have hfl := hF.1
  change G E g [(m, .inr (6, [.int t0, z1, z2, z3, .int te, z5, .ref tb, .ref yb, .ref sb, .int nf, z10, z11, z12, z13, z14, z15])), (tb, aI E (60) (tf)), (sb, aI E (60) (sf)), (yb, aB E (114000) (yf))] 0 0 0 [(0, .ref m), (1, .int x), (2, .int y), (3, .int z)] []
  refine g_aload_n C dX4_subfield2_0 0 rfl ?_
  refine g_iconst C dX4_subfield2_1 (by decide) (fun x1 e1 => ?_)
  refine gp_X4_37 C 0 rfl (Nat.le_of_ble_eq_true rfl) rfl rfl dX4_subfield2_2 ?_
  change G E g [(m, .inr (6, [.int x1, z1, z2, z3, .int te, z5, .ref tb, .ref yb, .ref sb, .int nf, z10, z11, z12, z13, z14, z15])), (tb, aI E (60) (tf)), (sb, aI E (60) (sf)), (yb, aB E (114000) (yf))] _ _ _ _ _
  refine g_aload_n C dX4_subfield2_5 0 rfl ?_
  refine g_iload_n C dX4_subfield2_6 1 rfl ?_
  refine g_callV C r mv_X4_101 dX4_subfield2_7 (c_X4_isField g.l E m te nf x (.int x1) (z1) (z2) (z3) (z5) (.ref tb) (.ref yb) (.ref sb) (z10) (z11) (z12) (z13) (z14) (z15)) (wr := [(tb, aI E (60) (tf)), (sb, aI E (60) (sf)), (yb, aB E (114000) (yf))]) (As := [.int x]) (rest := []) (Spl.at [1, 2, 3] [0] rfl rfl rfl) 0 rfl rfl rfl rfl (Nat.le_of_ble_eq_true rfl) (by decide) (Nat.le_refl _) (Nat.le_refl _) (fun v w h => ?_)
  obtain ⟨x7, rfl, e7, rfl⟩ := h
  change G E g [(tb, aI E (60) (tf)), (sb, aI E (60) (sf)), (yb, aB E (114000) (yf)), (m, .inr (6, [.int x1, z1, z2, z3, .int te, z5, .ref tb, .ref yb, .ref sb, .int nf, z10, z11, z12, z13, z14, z15]))] _ _ _ _ [.int x7]
  refine g_if_eq C 34 dX4_subfield2_10 (by decide) (fun c10 => ?_) (fun c10 => ?_)
  · replace e7 := bl0 e7 c10
    refine g_perm [3, 0, 1, 2] rfl (ws' := [(m, .inr (6, [.int x1, z1, z2, z3, .int te, z5, .ref tb, .ref yb, .ref sb, .int nf, z10, z11, z12, z13, z14, z15])), (tb, aI E (60) (tf)), (sb, aI E (60) (sf)), (yb, aB E (114000) (yf))]) rfl ?_
    exact g_vret C F dX4_subfield2_34 (Nat.le_refl _) (Nat.le_refl _) (by exact ⟨rfl, _, _, _, e1, by rw [sub2_0 (by omega)]; exact hM, rfl⟩)
  · replace e7 := bl1 e7 c10
    obtain ⟨hn1, hMF⟩ := hM.in e7.1
    obtain ⟨hT, hL, hBs⟩ := hMF (x.toInt.toNat - 1) (by omega)
    obtain ⟨hW1, hW2, hW3, hW4, hW5⟩ := hF.2 (x.toInt.toNat - 1) (by omega)
    have hlt : ∀ j, j < fl.length → (fB fl j).length < 1801 := fun j hj => by have := (hF.2 j hj).2.2.1; omega
    have hil : (x.toInt.toNat - 1) < fl.length := by omega
    refine g_iload_n C dX4_subfield2_13 3 rfl ?_
    refine g_sipush C dX4_subfield2_14 (by decide) (fun x14 e14 => ?_)
    refine g_iand255 C dX4_subfield2_17 e14 (fun x17 e17 l17 => ?_)
    refine g_callS C r ms_X4_58 dX4_subfield2_18 (c_X4_isMark g.l E x17) (wr := [(tb, aI E (60) (tf)), (sb, aI E (60) (sf)), (yb, aB E (114000) (yf)), (m, .inr (6, [.int x1, z1, z2, z3, .int te, z5, .ref tb, .ref yb, .ref sb, .int nf, z10, z11, z12, z13, z14, z15]))]) (As := [.int x17]) (rest := []) (Spl.at [0, 1, 2, 3] [] rfl rfl rfl) rfl (Nat.le_of_ble_eq_true rfl) (by decide) (Nat.le_refl _) (Nat.le_refl _) (fun v w h => ?_)
    obtain ⟨x18, rfl, e18, rfl⟩ := h
    change G E g [(tb, aI E (60) (tf)), (sb, aI E (60) (sf)), (yb, aB E (114000) (yf)), (m, .inr (6, [.int x1, z1, z2, z3, .int te, z5, .ref tb, .ref yb, .ref sb, .int nf, z10, z11, z12, z13, z14, z15]))] _ _ _ _ [.int x18]
    refine g_if_ne C 34 dX4_subfield2_21 (by decide) (fun c21 => ?_) (fun c21 => ?_)
    · replace e18 := bl1 e18 c21
      refine g_perm [3, 0, 1, 2] rfl (ws' := [(m, .inr (6, [.int x1, z1, z2, z3, .int te, z5, .ref tb, .ref yb, .ref sb, .int nf, z10, z11, z12, z13, z14, z15])), (tb, aI E (60) (tf)), (sb, aI E (60) (sf)), (yb, aB E (114000) (yf))]) rfl ?_
      exact g_vret C F dX4_subfield2_34 (Nat.le_refl _) (Nat.le_refl _) (by exact ⟨rfl, _, _, _, e1, by rw [sub2_0 (by omega)]; exact hM, rfl⟩)
    · replace e18 := bl0 e18 c21
      refine g_aload_n C dX4_subfield2_24 0 rfl ?_
      refine g_callV C r mv_X4_110 dX4_subfield2_25 (c_X4_together g.l E m tb sb yb tf sf yf te nf fl (.int x1) (z1) (z2) (z3) (z5) (z10) (z11) (z12) (z13) (z14) (z15) hM hF (by omega)) (wr := []) (As := []) (rest := []) (Spl.at [] [3, 0, 1, 2] rfl rfl rfl) 0 rfl rfl rfl rfl (Nat.le_of_ble_eq_true rfl) (by decide) (Nat.le_refl _) (Nat.le_refl _) (fun v w h => ?_)
      obtain ⟨x25, rfl, e25, rfl⟩ := h
      change G E g [(m, .inr (6, [.int x1, z1, z2, z3, .int te, z5, .ref tb, .ref yb, .ref sb, .int nf, z10, z11, z12, z13, z14, z15])), (tb, aI E (60) (tf)), (sb, aI E (60) (sf)), (yb, aB E (114000) (yf))] _ _ _ _ [.int x25]
      refine g_sipush C dX4_subfield2_28 (by decide) (fun x28 e28 => ?_)
      refine g_icmp_lt C 35 dX4_subfield2_31 (by decide) (fun c31 => ?_) (fun c31 => ?_)
      · have hte1 : te.toInt = 1 := by omega
        have hno2 : ¬ (¬ (0 < x.toInt ∧ x.toInt ≤ (fl.length : Int)) ∨ (29 ≤ u8 z ∧ u8 z ≤ 31) ∨ 1200 ≤ tot fl fl.length) := by omega
        clear hte hnf hin hno e14 e17 l17 e18 e25 e28 c31 c21 e7 c10
        refine g_aload_n C dX4_subfield2_35 0 rfl ?_
        refine gf_X4_16 C 0 rfl rfl dX4_subfield2_36 ?_
        refine g_iload_n C dX4_subfield2_39 1 rfl ?_
        refine g_iconst C dX4_subfield2_40 (by decide) (fun x40 e40 => ?_)
        refine g_isub C dX4_subfield2_41 (by omega) (fun x41 e41 => ?_)
        refine g_iaload C 1 rfl dX4_subfield2_42 ((x.toInt.toNat - 1)) (by omega) (by omega) (fun x42 e42 => ?_)
        have t42 := congrArg Int32.toInt e42
        refine g_bipush C dX4_subfield2_43 (by decide) (fun x43 e43 => ?_)
        refine g_icmp_le C 146 dX4_subfield2_45 (by decide) (fun c45 => ?_) (fun c45 => ?_)
        · refine g_aload_n C dX4_subfield2_146 0 rfl ?_
          refine g_iload_n C dX4_subfield2_147 1 rfl ?_
          refine g_iload_n C dX4_subfield2_148 3 rfl ?_
          refine g_callV C r mv_X4_114 dX4_subfield2_149 (c_X4_append g.l E m sb yb (sf) (yf) x z ((x.toInt.toNat - 1)) ((fB fl (x.toInt.toNat - 1)).length) (.int x1) (z1) (z2) (z3) (.int te) (z5) (.ref tb) (.int nf) (z10) (z11) (z12) (z13) (z14) (z15) (by omega) (by omega) (by omega) (by omega)) (wr := [(tb, aI E (60) (tf))]) (As := [.int x, .int z]) (rest := []) (Spl.at [1] [0, 2, 3] rfl rfl rfl) 0 rfl rfl rfl rfl (Nat.le_of_ble_eq_true rfl) (by decide) (Nat.le_refl _) (Nat.le_refl _) (fun v w h => ?_)
          obtain ⟨rfl, z149, ez149, rfl⟩ := h
          change G E g [(tb, aI E (60) (tf)), (m, .inr (6, [.int x1, z1, z2, z3, .int te, z5, .ref tb, .ref yb, .ref sb, .int nf, z10, z11, z12, z13, z14, z15])), (sb, aI E (60) (upd (sf) ((x.toInt.toNat - 1)) z149)), (yb, aB E (114000) (upd (yf) (1900 * ((x.toInt.toNat - 1)) + ((fB fl (x.toInt.toNat - 1)).length)) (sB (u8 z))))] _ _ _ _ []
          refine g_perm [1, 0, 2, 3] rfl (ws' := [(m, .inr (6, [.int x1, z1, z2, z3, .int te, z5, .ref tb, .ref yb, .ref sb, .int nf, z10, z11, z12, z13, z14, z15])), (tb, aI E (60) (tf)), (sb, aI E (60) (upd (sf) ((x.toInt.toNat - 1)) z149)), (yb, aB E (114000) (upd (yf) (1900 * ((x.toInt.toNat - 1)) + ((fB fl (x.toInt.toNat - 1)).length)) (sB (u8 z))))]) rfl ?_
          exact g_vret C F dX4_subfield2_152 (Nat.le_refl _) (Nat.le_refl _) (by exact ⟨rfl, _, _, _, e1, by rw [sub2_1 hno2 (by omega)]; exact Or.inl ⟨by omega, by rw [addB_len]; exact hn1, MF_add hMF hil (fun j hj => by have := hlt j hj; omega) ez149⟩, rfl⟩)
        · refine g_iconst C dX4_subfield2_48 (by decide) (fun x48 e48 => ?_)
          refine g_istore C dX4_subfield2_49 (by rw [hN]; decide) (lv' := [(4, .int x48), (0, .ref m), (1, .int x), (2, .int y), (3, .int z)]) rfl ?_
          refine g_iconst C dX4_subfield2_51 (by decide) (fun x51 e51 => ?_)
          refine g_istore C dX4_subfield2_52 (by rw [hN]; decide) (lv' := [(5, .int x51), (4, .int x48), (0, .ref m), (1, .int x), (2, .int y), (3, .int z)]) rfl ?_
          have loop54 : ∀ (nn : Nat) (n4 : Int32) (n5 : Int32) (k : Nat) (hm : (fB fl (x.toInt.toNat - 1)).length - k < nn) (hk2 : 2 ≤ k ∧ k ≤ (fB fl (x.toInt.toNat - 1)).length) (hp5 : n5.toInt = (k : Int)) (hlk : n4.toInt = lCn ((fB fl (x.toInt.toNat - 1)).drop 2) (k - 2)), G E g [(m, .inr (6, [.int x1, z1, z2, z3, .int te, z5, .ref tb, .ref yb, .ref sb, .int nf, z10, z11, z12, z13, z14, z15])), (tb, aI E (60) (tf)), (sb, aI E (60) (sf)), (yb, aB E (114000) (yf))] 0 0 54 [(0, .ref m), (1, .int x), (2, .int y), (3, .int z), (4, .int n4), (5, .int n5)] [] := by
            intro nn
            induction nn with
            | zero => intro n4 n5 k hm hk2 hp5 hlk; omega
            | succ nn ih54 =>
              intro n4 n5 k hm hk2 hp5 hlk
              refine g_iload C dX4_subfield2_54 5 rfl ?_
              refine g_aload_n C dX4_subfield2_56 0 rfl ?_
              refine gf_X4_24 C 0 rfl rfl dX4_subfield2_57 ?_
              refine g_iload_n C dX4_subfield2_60 1 rfl ?_
              refine g_iconst C dX4_subfield2_61 (by decide) (fun x61 e61 => ?_)
              refine g_isub C dX4_subfield2_62 (by omega) (fun x62 e62 => ?_)
              refine g_iaload C 2 rfl dX4_subfield2_63 ((x.toInt.toNat - 1)) (by omega) (by omega) (fun x63 e63 => ?_)
              have t63 := congrArg Int32.toInt e63
              refine g_icmp_ge C 101 dX4_subfield2_64 (by decide) (fun c64 => ?_) (fun c64 => ?_)
              · have hlc : n4.toInt = lastC (fB fl (x.toInt.toNat - 1)) := by unfold lastC; rw [hlk, show k = (fB fl (x.toInt.toNat - 1)).length by omega]
                clear hlk hp5 hk2 hm
                refine g_iload C dX4_subfield2_101 4 rfl ?_
                refine g_iload_n C dX4_subfield2_103 2 rfl ?_
                refine g_sipush C dX4_subfield2_104 (by decide) (fun x104 e104 => ?_)
                refine g_iand255 C dX4_subfield2_107 e104 (fun x107 e107 l107 => ?_)
                refine g_icmp_eq C 146 dX4_subfield2_108 (by decide) (fun c108 => ?_) (fun c108 => ?_)
                · refine g_aload_n C dX4_subfield2_146 0 rfl ?_
                  refine g_iload_n C dX4_subfield2_147 1 rfl ?_
                  refine g_iload_n C dX4_subfield2_148 3 rfl ?_
                  refine g_callV C r mv_X4_114 dX4_subfield2_149 (c_X4_append g.l E m sb yb (sf) (yf) x z ((x.toInt.toNat - 1)) ((fB fl (x.toInt.toNat - 1)).length) (.int x1) (z1) (z2) (z3) (.int te) (z5) (.ref tb) (.int nf) (z10) (z11) (z12) (z13) (z14) (z15) (by omega) (by omega) (by omega) (by omega)) (wr := [(tb, aI E (60) (tf))]) (As := [.int x, .int z]) (rest := []) (Spl.at [1] [0, 2, 3] rfl rfl rfl) 0 rfl rfl rfl rfl (Nat.le_of_ble_eq_true rfl) (by decide) (Nat.le_refl _) (Nat.le_refl _) (fun v w h => ?_)
                  obtain ⟨rfl, z149, ez149, rfl⟩ := h
                  change G E g [(tb, aI E (60) (tf)), (m, .inr (6, [.int x1, z1, z2, z3, .int te, z5, .ref tb, .ref yb, .ref sb, .int nf, z10, z11, z12, z13, z14, z15])), (sb, aI E (60) (upd (sf) ((x.toInt.toNat - 1)) z149)), (yb, aB E (114000) (upd (yf) (1900 * ((x.toInt.toNat - 1)) + ((fB fl (x.toInt.toNat - 1)).length)) (sB (u8 z))))] _ _ _ _ []
                  refine g_perm [1, 0, 2, 3] rfl (ws' := [(m, .inr (6, [.int x1, z1, z2, z3, .int te, z5, .ref tb, .ref yb, .ref sb, .int nf, z10, z11, z12, z13, z14, z15])), (tb, aI E (60) (tf)), (sb, aI E (60) (upd (sf) ((x.toInt.toNat - 1)) z149)), (yb, aB E (114000) (upd (yf) (1900 * ((x.toInt.toNat - 1)) + ((fB fl (x.toInt.toNat - 1)).length)) (sB (u8 z))))]) rfl ?_
                  exact g_vret C F dX4_subfield2_152 (Nat.le_refl _) (Nat.le_refl _) (by exact ⟨rfl, _, _, _, e1, by rw [sub2_1 hno2 (by omega)]; exact Or.inl ⟨by omega, by rw [addB_len]; exact hn1, MF_add hMF hil (fun j hj => by have := hlt j hj; omega) ez149⟩, rfl⟩)
                · refine g_iload_n C dX4_subfield2_111 2 rfl ?_
                  refine g_sipush C dX4_subfield2_112 (by decide) (fun x112 e112 => ?_)
                  refine g_iand255 C dX4_subfield2_115 e112 (fun x115 e115 l115 => ?_)
                  refine g_callS C r ms_X4_58 dX4_subfield2_116 (c_X4_isMark g.l E x115) (wr := [(m, .inr (6, [.int x1, z1, z2, z3, .int te, z5, .ref tb, .ref yb, .ref sb, .int nf, z10, z11, z12, z13, z14, z15])), (tb, aI E (60) (tf)), (sb, aI E (60) (sf)), (yb, aB E (114000) (yf))]) (As := [.int x115]) (rest := []) (Spl.at [0, 1, 2, 3] [] rfl rfl rfl) rfl (Nat.le_of_ble_eq_true rfl) (by decide) (Nat.le_refl _) (Nat.le_refl _) (fun v w h => ?_)
                  obtain ⟨x116, rfl, e116, rfl⟩ := h
                  change G E g [(m, .inr (6, [.int x1, z1, z2, z3, .int te, z5, .ref tb, .ref yb, .ref sb, .int nf, z10, z11, z12, z13, z14, z15])), (tb, aI E (60) (tf)), (sb, aI E (60) (sf)), (yb, aB E (114000) (yf))] _ _ _ _ [.int x116]
                  refine g_if_ne C 132 dX4_subfield2_119 (by decide) (fun c119 => ?_) (fun c119 => ?_)
                  · replace e116 := bl1 e116 c119
                    exact g_vret C F dX4_subfield2_132 (Nat.le_refl _) (Nat.le_refl _) (by exact ⟨rfl, _, _, _, e1, by rw [sub2_2 hno2 (by omega) (by omega)]; exact hM, rfl⟩)
                  · replace e116 := bl0 e116 c119
                    refine g_aload_n C dX4_subfield2_122 0 rfl ?_
                    refine g_callV C r mv_X4_110 dX4_subfield2_123 (c_X4_together g.l E m tb sb yb tf sf yf te nf fl (.int x1) (z1) (z2) (z3) (z5) (z10) (z11) (z12) (z13) (z14) (z15) hM hF (by omega)) (wr := []) (As := []) (rest := []) (Spl.at [] [0, 1, 2, 3] rfl rfl rfl) 0 rfl rfl rfl rfl (Nat.le_of_ble_eq_true rfl) (by decide) (Nat.le_refl _) (Nat.le_refl _) (fun v w h => ?_)
                    obtain ⟨x123, rfl, e123, rfl⟩ := h
                    change G E g [(m, .inr (6, [.int x1, z1, z2, z3, .int te, z5, .ref tb, .ref yb, .ref sb, .int nf, z10, z11, z12, z13, z14, z15])), (tb, aI E (60) (tf)), (sb, aI E (60) (sf)), (yb, aB E (114000) (yf))] _ _ _ _ [.int x123]
                    refine g_sipush C dX4_subfield2_126 (by decide) (fun x126 e126 => ?_)
                    refine g_icmp_le C 133 dX4_subfield2_129 (by decide) (fun c129 => ?_) (fun c129 => ?_)
                    · refine g_aload_n C dX4_subfield2_133 0 rfl ?_
                      refine g_iload_n C dX4_subfield2_134 1 rfl ?_
                      refine g_bipush C dX4_subfield2_135 (by decide) (fun x135 e135 => ?_)
                      refine g_callV C r mv_X4_114 dX4_subfield2_137 (c_X4_append g.l E m sb yb (sf) (yf) x x135 ((x.toInt.toNat - 1)) ((fB fl (x.toInt.toNat - 1)).length) (.int x1) (z1) (z2) (z3) (.int te) (z5) (.ref tb) (.int nf) (z10) (z11) (z12) (z13) (z14) (z15) (by omega) (by omega) (by omega) (by omega)) (wr := [(tb, aI E (60) (tf))]) (As := [.int x, .int x135]) (rest := []) (Spl.at [1] [0, 2, 3] rfl rfl rfl) 0 rfl rfl rfl rfl (Nat.le_of_ble_eq_true rfl) (by decide) (Nat.le_refl _) (Nat.le_refl _) (fun v w h => ?_)
                      obtain ⟨rfl, z137, ez137, rfl⟩ := h
                      change G E g [(tb, aI E (60) (tf)), (m, .inr (6, [.int x1, z1, z2, z3, .int te, z5, .ref tb, .ref yb, .ref sb, .int nf, z10, z11, z12, z13, z14, z15])), (sb, aI E (60) (upd (sf) ((x.toInt.toNat - 1)) z137)), (yb, aB E (114000) (upd (yf) (1900 * ((x.toInt.toNat - 1)) + ((fB fl (x.toInt.toNat - 1)).length)) (sB (u8 x135))))] _ _ _ _ []
                      refine g_aload_n C dX4_subfield2_140 0 rfl ?_
                      refine g_iload_n C dX4_subfield2_141 1 rfl ?_
                      refine g_iload_n C dX4_subfield2_142 2 rfl ?_
                      refine g_callV C r mv_X4_114 dX4_subfield2_143 (c_X4_append g.l E m sb yb (upd (sf) ((x.toInt.toNat - 1)) z137) (upd (yf) (1900 * ((x.toInt.toNat - 1)) + ((fB fl (x.toInt.toNat - 1)).length)) (sB (u8 x135))) x y ((x.toInt.toNat - 1)) ((fB fl (x.toInt.toNat - 1)).length + 1) (.int x1) (z1) (z2) (z3) (.int te) (z5) (.ref tb) (.int nf) (z10) (z11) (z12) (z13) (z14) (z15) (by omega) (by omega) (by rw [upd_s, ez137]) (by omega)) (wr := [(tb, aI E (60) (tf))]) (As := [.int x, .int y]) (rest := []) (Spl.at [0] [1, 2, 3] rfl rfl rfl) 0 rfl rfl rfl rfl (Nat.le_of_ble_eq_true rfl) (by decide) (Nat.le_refl _) (Nat.le_refl _) (fun v w h => ?_)
                      obtain ⟨rfl, z143, ez143, rfl⟩ := h
                      change G E g [(tb, aI E (60) (tf)), (m, .inr (6, [.int x1, z1, z2, z3, .int te, z5, .ref tb, .ref yb, .ref sb, .int nf, z10, z11, z12, z13, z14, z15])), (sb, aI E (60) (upd (upd (sf) ((x.toInt.toNat - 1)) z137) ((x.toInt.toNat - 1)) z143)), (yb, aB E (114000) (upd (upd (yf) (1900 * ((x.toInt.toNat - 1)) + ((fB fl (x.toInt.toNat - 1)).length)) (sB (u8 x135))) (1900 * ((x.toInt.toNat - 1)) + ((fB fl (x.toInt.toNat - 1)).length + 1)) (sB (u8 y))))] _ _ _ _ []
                      refine g_aload_n C dX4_subfield2_146 0 rfl ?_
                      refine g_iload_n C dX4_subfield2_147 1 rfl ?_
                      refine g_iload_n C dX4_subfield2_148 3 rfl ?_
                      refine g_callV C r mv_X4_114 dX4_subfield2_149 (c_X4_append g.l E m sb yb (upd (upd (sf) ((x.toInt.toNat - 1)) z137) ((x.toInt.toNat - 1)) z143) (upd (upd (yf) (1900 * ((x.toInt.toNat - 1)) + ((fB fl (x.toInt.toNat - 1)).length)) (sB (u8 x135))) (1900 * ((x.toInt.toNat - 1)) + ((fB fl (x.toInt.toNat - 1)).length + 1)) (sB (u8 y))) x z ((x.toInt.toNat - 1)) ((fB fl (x.toInt.toNat - 1)).length + 2) (.int x1) (z1) (z2) (z3) (.int te) (z5) (.ref tb) (.int nf) (z10) (z11) (z12) (z13) (z14) (z15) (by omega) (by omega) (by rw [upd_s, ez143]) (by omega)) (wr := [(tb, aI E (60) (tf))]) (As := [.int x, .int z]) (rest := []) (Spl.at [0] [1, 2, 3] rfl rfl rfl) 0 rfl rfl rfl rfl (Nat.le_of_ble_eq_true rfl) (by decide) (Nat.le_refl _) (Nat.le_refl _) (fun v w h => ?_)
                      obtain ⟨rfl, z149, ez149, rfl⟩ := h
                      change G E g [(tb, aI E (60) (tf)), (m, .inr (6, [.int x1, z1, z2, z3, .int te, z5, .ref tb, .ref yb, .ref sb, .int nf, z10, z11, z12, z13, z14, z15])), (sb, aI E (60) (upd (upd (upd (sf) ((x.toInt.toNat - 1)) z137) ((x.toInt.toNat - 1)) z143) ((x.toInt.toNat - 1)) z149)), (yb, aB E (114000) (upd (upd (upd (yf) (1900 * ((x.toInt.toNat - 1)) + ((fB fl (x.toInt.toNat - 1)).length)) (sB (u8 x135))) (1900 * ((x.toInt.toNat - 1)) + ((fB fl (x.toInt.toNat - 1)).length + 1)) (sB (u8 y))) (1900 * ((x.toInt.toNat - 1)) + ((fB fl (x.toInt.toNat - 1)).length + 2)) (sB (u8 z))))] _ _ _ _ []
                      refine g_perm [1, 0, 2, 3] rfl (ws' := [(m, .inr (6, [.int x1, z1, z2, z3, .int te, z5, .ref tb, .ref yb, .ref sb, .int nf, z10, z11, z12, z13, z14, z15])), (tb, aI E (60) (tf)), (sb, aI E (60) (upd (upd (upd (sf) ((x.toInt.toNat - 1)) z137) ((x.toInt.toNat - 1)) z143) ((x.toInt.toNat - 1)) z149)), (yb, aB E (114000) (upd (upd (upd (yf) (1900 * ((x.toInt.toNat - 1)) + ((fB fl (x.toInt.toNat - 1)).length)) (sB (u8 x135))) (1900 * ((x.toInt.toNat - 1)) + ((fB fl (x.toInt.toNat - 1)).length + 1)) (sB (u8 y))) (1900 * ((x.toInt.toNat - 1)) + ((fB fl (x.toInt.toNat - 1)).length + 2)) (sB (u8 z))))]) rfl ?_
                      exact g_vret C F dX4_subfield2_152 (Nat.le_refl _) (Nat.le_refl _) (by exact ⟨rfl, _, _, _, e1, by rw [sub2_3 hno2 (by omega) (by omega)]; exact Or.inl ⟨by omega, by rw [addB_len, addB_len, addB_len]; exact hn1, s2_MF hMF hil hlt e135 ez137 ez143 ez149⟩, rfl⟩)
                    · exact g_vret C F dX4_subfield2_132 (Nat.le_refl _) (Nat.le_refl _) (by exact ⟨rfl, _, _, _, e1, by rw [sub2_2 hno2 (by omega) (by omega)]; exact hM, rfl⟩)
              · refine g_aload_n C dX4_subfield2_67 0 rfl ?_
                refine g_iload_n C dX4_subfield2_68 1 rfl ?_
                refine g_iload C dX4_subfield2_69 5 rfl ?_
                refine g_callV C r mv_X4_104 dX4_subfield2_71 (c_X4_at g.l E m yb yf x n5 ((x.toInt.toNat - 1)) (k) (.int x1) (z1) (z2) (z3) (.int te) (z5) (.ref tb) (.ref sb) (.int nf) (z10) (z11) (z12) (z13) (z14) (z15) (by omega) (by omega) (by omega) (by omega)) (wr := [(tb, aI E (60) (tf)), (sb, aI E (60) (sf))]) (As := [.int x, .int n5]) (rest := []) (Spl.at [1, 2] [0, 3] rfl rfl rfl) 0 rfl rfl rfl rfl (Nat.le_of_ble_eq_true rfl) (by decide) (Nat.le_refl _) (Nat.le_refl _) (fun v w h => ?_)
                obtain ⟨x71, rfl, e71, rfl⟩ := h
                change G E g [(tb, aI E (60) (tf)), (sb, aI E (60) (sf)), (m, .inr (6, [.int x1, z1, z2, z3, .int te, z5, .ref tb, .ref yb, .ref sb, .int nf, z10, z11, z12, z13, z14, z15])), (yb, aB E (114000) (yf))] _ _ _ _ [.int x71]
                rw [Bs_at hBs hW2 (by omega)] at e71
                refine g_bipush C dX4_subfield2_74 (by decide) (fun x74 e74 => ?_)
                refine g_icmp_ne C 91 dX4_subfield2_76 (by decide) (fun c76 => ?_) (fun c76 => ?_)
                · refine g_iload C dX4_subfield2_91 4 rfl ?_
                  refine g_istore C dX4_subfield2_93 (by rw [hN]; decide) (lv' := [(4, .int n4), (0, .ref m), (1, .int x), (2, .int y), (3, .int z), (5, .int n5)]) rfl ?_
                  refine g_iinc C dX4_subfield2_95 5 rfl (by rw [hN]; decide) (by decide) (by omega) (fun x95 e95 => ?_)
                  refine g_lvE (lv' := [(5, .int x95), (4, .int n4), (0, .ref m), (1, .int x), (2, .int y), (3, .int z)]) rfl ?_
                  refine g_goto C 54 dX4_subfield2_98 (by decide) ?_
                  refine g_lv [2, 3, 4, 5, 1, 0] (lv' := [(0, .ref m), (1, .int x), (2, .int y), (3, .int z), (4, .int n4), (5, .int x95)]) rfl ?_
                  refine g_perm [2, 0, 1, 3] rfl (ws' := [(m, .inr (6, [.int x1, z1, z2, z3, .int te, z5, .ref tb, .ref yb, .ref sb, .int nf, z10, z11, z12, z13, z14, z15])), (tb, aI E (60) (tf)), (sb, aI E (60) (sf)), (yb, aB E (114000) (yf))]) rfl ?_
                  exact ih54 (n4) (x95) (k + 1) (by omega) (by omega) (by omega) (by exact lC_step (by omega) (by omega) (hW4 (by omega)).2 hlk (Or.inr ⟨by omega, rfl⟩))
                · refine g_aload_n C dX4_subfield2_79 0 rfl ?_
                  refine g_iload_n C dX4_subfield2_80 1 rfl ?_
                  refine g_iload C dX4_subfield2_81 5 rfl ?_
                  refine g_iconst C dX4_subfield2_83 (by decide) (fun x83 e83 => ?_)
                  refine g_iadd C dX4_subfield2_84 (by omega) (fun x84 e84 => ?_)
                  refine g_callV C r mv_X4_104 dX4_subfield2_85 (c_X4_at g.l E m yb yf x x84 ((x.toInt.toNat - 1)) (k + 1) (.int x1) (z1) (z2) (z3) (.int te) (z5) (.ref tb) (.ref sb) (.int nf) (z10) (z11) (z12) (z13) (z14) (z15) (by omega) (by omega) (by omega) (by omega)) (wr := [(tb, aI E (60) (tf)), (sb, aI E (60) (sf))]) (As := [.int x, .int x84]) (rest := []) (Spl.at [0, 1] [2, 3] rfl rfl rfl) 0 rfl rfl rfl rfl (Nat.le_of_ble_eq_true rfl) (by decide) (Nat.le_refl _) (Nat.le_refl _) (fun v w h => ?_)
                  obtain ⟨x85, rfl, e85, rfl⟩ := h
                  change G E g [(tb, aI E (60) (tf)), (sb, aI E (60) (sf)), (m, .inr (6, [.int x1, z1, z2, z3, .int te, z5, .ref tb, .ref yb, .ref sb, .int nf, z10, z11, z12, z13, z14, z15])), (yb, aB E (114000) (yf))] _ _ _ _ [.int x85]
                  have hk1 := lC_in (by omega) (by omega) (hW4 (by omega)).2 (by omega : (fB fl (x.toInt.toNat - 1)).getD k 0 = 31)
                  rw [Bs_at hBs hW2 hk1] at e85
                  have e85r := e85
                  refine g_goto C 93 dX4_subfield2_88 (by decide) ?_
                  refine g_istore C dX4_subfield2_93 (by rw [hN]; decide) (lv' := [(4, .int x85), (0, .ref m), (1, .int x), (2, .int y), (3, .int z), (5, .int n5)]) rfl ?_
                  refine g_iinc C dX4_subfield2_95 5 rfl (by rw [hN]; decide) (by decide) (by omega) (fun x95 e95 => ?_)
                  refine g_lvE (lv' := [(5, .int x95), (4, .int x85), (0, .ref m), (1, .int x), (2, .int y), (3, .int z)]) rfl ?_
                  refine g_goto C 54 dX4_subfield2_98 (by decide) ?_
                  refine g_lv [2, 3, 4, 5, 1, 0] (lv' := [(0, .ref m), (1, .int x), (2, .int y), (3, .int z), (4, .int x85), (5, .int x95)]) rfl ?_
                  refine g_perm [2, 0, 1, 3] rfl (ws' := [(m, .inr (6, [.int x1, z1, z2, z3, .int te, z5, .ref tb, .ref yb, .ref sb, .int nf, z10, z11, z12, z13, z14, z15])), (tb, aI E (60) (tf)), (sb, aI E (60) (sf)), (yb, aB E (114000) (yf))]) rfl ?_
                  exact ih54 (x85) (x95) (k + 1) (by omega) (by omega) (by omega) (by exact lC_step (by omega) (by omega) (hW4 (by omega)).2 hlk (Or.inl ⟨by omega, e85r⟩))
          refine g_lv [2, 3, 4, 5, 1, 0] (lv' := [(0, .ref m), (1, .int x), (2, .int y), (3, .int z), (4, .int x48), (5, .int x51)]) rfl ?_
          exact loop54 _ (x48) (x51) (2) (Nat.lt_succ_self _) (by omega) (by omega) (by rw [e48]; rfl)
      · exact g_vret C F dX4_subfield2_34 (Nat.le_refl _) (Nat.le_refl _) (by exact ⟨rfl, _, _, _, e1, by rw [sub2_0 (by omega)]; exact hM, rfl⟩)
