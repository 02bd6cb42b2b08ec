set_option maxHeartbeats 1000000 in
set_option maxRecDepth 10000 in
theorem c_X4_thrown (l : Launch) (E : GE) (m : Nat) (t0 : Int32) (z1 z2 z3 z4 z5 z6 z7 z8 z9 z10 z11 z12 z13 z14 z15 : Value)  : Ctr l E yX4_thrown cX4_thrown 1 (some .int) 0 (0) (0) [.ref m] [(m, .inr (6, [.int t0, z1, z2, z3, z4, z5, z6, z7, z8, z9, z10, z11, z12, z13, z14, z15]))] (oI (fun r => r = t0) [(m, .inr (6, [.int t0, z1, z2, z3, z4, z5, z6, z7, z8, z9, z10, z11, z12, z13, z14, z15]))]) := by
  refine Ctr.intro (by decide) (Nat.le_of_ble_eq_true rfl) (fun g hgl hN C r F hi => ?_)
  subst hgl
  change G E g [(m, .inr (6, [.int t0, z1, z2, z3, z4, z5, z6, z7, z8, z9, z10, z11, z12, z13, z14, z15]))] 0 0 0 [(0, .ref m)] []
  refine g_aload_n C dX4_thrown_0 0 rfl ?_
  refine gf_X4_37 C 0 rfl rfl dX4_thrown_1 ?_
  exact g_iret C F dX4_thrown_4 rfl rfl (Nat.le_refl _) (Nat.le_refl _) (by exact ⟨_, rfl, rfl, rfl⟩)
set_option maxHeartbeats 1000000 in
set_option maxRecDepth 10000 in
theorem c_X4_isField (l : Launch) (E : GE) (m : Nat) (te nf x : Int32) (z0 z1 z2 z3 z5 z6 z7 z8 z10 z11 z12 z13 z14 z15 : Value)  : Ctr l E yX4_isField cX4_isField 2 (some .boolean) 0 (0) (0) [.ref m, .int x] [(m, .inr (6, [z0, z1, z2, z3, .int te, z5, z6, z7, z8, .int nf, z10, z11, z12, z13, z14, z15]))] (oI (fun r => (r.toInt = 1 ∧ te.toInt ≠ 0 ∧ 0 < x.toInt ∧ x.toInt ≤ nf.toInt) ∨ (r.toInt = 0 ∧ ¬ (te.toInt ≠ 0 ∧ 0 < x.toInt ∧ x.toInt ≤ nf.toInt))) [(m, .inr (6, [z0, z1, z2, z3, .int te, z5, z6, z7, z8, .int nf, z10, z11, z12, z13, z14, z15]))]) := by
  refine Ctr.intro (by decide) (Nat.le_of_ble_eq_true rfl) (fun g hgl hN C r F hi => ?_)
  subst hgl
  change G E g [(m, .inr (6, [z0, z1, z2, z3, .int te, z5, z6, z7, z8, .int nf, z10, z11, z12, z13, z14, z15]))] 0 0 0 [(0, .ref m), (1, .int x)] []
  refine g_aload_n C dX4_isField_0 0 rfl ?_
  refine gf_X4_91 C 0 rfl rfl dX4_isField_1 ?_
  refine g_if_eq C 23 dX4_isField_4 (by decide) (fun c4 => ?_) (fun c4 => ?_)
  · refine g_iconst C dX4_isField_23 (by decide) (fun x23 e23 => ?_)
    exact g_iret C F dX4_isField_24 rfl (nz_b x23 (by omega)) (Nat.le_refl _) (Nat.le_refl _) (by exact ⟨_, rfl, by omega, rfl⟩)
  · refine g_iload_n C dX4_isField_7 1 rfl ?_
    refine g_if_le C 23 dX4_isField_8 (by decide) (fun c8 => ?_) (fun c8 => ?_)
    · refine g_iconst C dX4_isField_23 (by decide) (fun x23 e23 => ?_)
      exact g_iret C F dX4_isField_24 rfl (nz_b x23 (by omega)) (Nat.le_refl _) (Nat.le_refl _) (by exact ⟨_, rfl, by omega, rfl⟩)
    · refine g_iload_n C dX4_isField_11 1 rfl ?_
      refine g_aload_n C dX4_isField_12 0 rfl ?_
      refine gf_X4_88 C 0 rfl rfl dX4_isField_13 ?_
      refine g_icmp_gt C 23 dX4_isField_16 (by decide) (fun c16 => ?_) (fun c16 => ?_)
      · refine g_iconst C dX4_isField_23 (by decide) (fun x23 e23 => ?_)
        exact g_iret C F dX4_isField_24 rfl (nz_b x23 (by omega)) (Nat.le_refl _) (Nat.le_refl _) (by exact ⟨_, rfl, by omega, rfl⟩)
      · refine g_iconst C dX4_isField_19 (by decide) (fun x19 e19 => ?_)
        refine g_goto C 24 dX4_isField_20 (by decide) ?_
        exact g_iret C F dX4_isField_24 rfl (nz_b x19 (by omega)) (Nat.le_refl _) (Nat.le_refl _) (by exact ⟨_, rfl, by omega, rfl⟩)
set_option maxHeartbeats 1000000 in
set_option maxRecDepth 10000 in
theorem c_X4_at (l : Launch) (E : GE) (m yb : Nat) (yf : Nat → Int32) (x y : Int32) (i k : Nat) (z0 z1 z2 z3 z4 z5 z6 z8 z9 z10 z11 z12 z13 z14 z15 : Value) (hx : x.toInt = ((i + 1 : Nat) : Int)) (hy : y.toInt = (k : Int)) (hi : i < 60) (hk : k < 1900) : Ctr l E yX4_at cX4_at 3 (some .int) 0 (0) (0) [.ref m, .int x, .int y] [(m, .inr (6, [z0, z1, z2, z3, z4, z5, z6, .ref yb, z8, z9, z10, z11, z12, z13, z14, z15])), (yb, aB E (114000) (yf))] (oI (fun r => r.toInt = (u8 (yf (1900 * i + k)) : Int)) [(m, .inr (6, [z0, z1, z2, z3, z4, z5, z6, .ref yb, z8, z9, z10, z11, z12, z13, z14, z15])), (yb, aB E (114000) (yf))]) := by
  refine Ctr.intro (by decide) (Nat.le_of_ble_eq_true rfl) (fun g hgl hN C r F hi => ?_)
  subst hgl
  change G E g [(m, .inr (6, [z0, z1, z2, z3, z4, z5, z6, .ref yb, z8, z9, z10, z11, z12, z13, z14, z15])), (yb, aB E (114000) (yf))] 0 0 0 [(0, .ref m), (1, .int x), (2, .int y)] []
  refine g_aload_n C dX4_at_0 0 rfl ?_
  refine gf_X4_21 C 0 rfl rfl dX4_at_1 ?_
  refine g_sipush C dX4_at_4 (by decide) (fun x4 e4 => ?_)
  refine g_iload_n C dX4_at_7 1 rfl ?_
  refine g_iconst C dX4_at_8 (by decide) (fun x8 e8 => ?_)
  refine g_isub C dX4_at_9 (by omega) (fun x9 e9 => ?_)
  refine g_imul C dX4_at_10 (1900 * x9.toInt) (by rw [e4]) (by omega) (fun x10 e10 => ?_)
  refine g_iload_n C dX4_at_11 2 rfl ?_
  refine g_iadd C dX4_at_12 (by omega) (fun x12 e12 => ?_)
  refine g_baload C 1 rfl dX4_at_13 (1900 * i + k) (by omega) (by omega) (fun x13 e13 => ?_)
  refine g_sipush C dX4_at_14 (by decide) (fun x14 e14 => ?_)
  refine g_iand255 C dX4_at_17 e14 (fun x17 e17 l17 => ?_)
  exact g_iret C F dX4_at_18 rfl rfl (Nat.le_refl _) (Nat.le_refl _) (by refine ⟨_, rfl, ?_, rfl⟩; show _ = _; rw [e17, e13])
set_option maxHeartbeats 1000000 in
set_option maxRecDepth 10000 in
theorem c_X4_length (l : Launch) (E : GE) (m : Nat) (t0 te nf : Int32) (z1 z2 z3 z5 z6 z7 z8 z10 z11 z12 z13 z14 z15 : Value)  : Ctr l E yX4_length cX4_length 1 (some .int) 0 (0) (0) [.ref m] [(m, .inr (6, [.int t0, z1, z2, z3, .int te, z5, z6, z7, z8, .int nf, z10, z11, z12, z13, z14, z15]))] (fun v w => ∃ (r t : Int32), v = some (.int r) ∧ t.toInt = 0 ∧ ((te.toInt ≠ 0 ∧ r.toInt = nf.toInt) ∨ (te.toInt = 0 ∧ r.toInt = -1)) ∧ w = [(m, .inr (6, [.int t, z1, z2, z3, .int te, z5, z6, z7, z8, .int nf, z10, z11, z12, z13, z14, z15]))]) := by
  refine Ctr.intro (by decide) (Nat.le_of_ble_eq_true rfl) (fun g hgl hN C r F hi => ?_)
  subst hgl
  change G E g [(m, .inr (6, [.int t0, z1, z2, z3, .int te, z5, z6, z7, z8, .int nf, z10, z11, z12, z13, z14, z15]))] 0 0 0 [(0, .ref m)] []
  refine g_aload_n C dX4_length_0 0 rfl ?_
  refine g_iconst C dX4_length_1 (by decide) (fun x1 e1 => ?_)
  refine gp_X4_37 C 0 rfl (Nat.le_of_ble_eq_true rfl) rfl rfl dX4_length_2 ?_
  change G E g [(m, .inr (6, [.int x1, z1, z2, z3, .int te, z5, z6, z7, z8, .int nf, z10, z11, z12, z13, z14, z15]))] _ _ _ _ _
  refine g_aload_n C dX4_length_5 0 rfl ?_
  refine gf_X4_91 C 0 rfl rfl dX4_length_6 ?_
  refine g_if_eq C 19 dX4_length_9 (by decide) (fun c9 => ?_) (fun c9 => ?_)
  · refine g_iconst C dX4_length_19 (by decide) (fun x19 e19 => ?_)
    exact g_iret C F dX4_length_20 rfl rfl (Nat.le_refl _) (Nat.le_refl _) (by exact ⟨_, _, rfl, by omega, by omega, rfl⟩)
  · refine g_aload_n C dX4_length_12 0 rfl ?_
    refine gf_X4_88 C 0 rfl rfl dX4_length_13 ?_
    refine g_goto C 20 dX4_length_16 (by decide) ?_
    exact g_iret C F dX4_length_20 rfl rfl (Nat.le_refl _) (Nat.le_refl _) (by exact ⟨_, _, rfl, by omega, by omega, rfl⟩)
set_option maxHeartbeats 1000000 in
set_option maxRecDepth 10000 in
theorem c_X4_directory (l : Launch) (E : GE) (m rb : Nat) (rf : Nat → Int32) (t0 rc x y : Int32) (n : Nat) (z1 z2 z3 z4 z5 z6 z7 z8 z9 z11 z13 z14 z15 : Value) (hrc : rc.toInt = (n : Int)) (hn : n ≤ 60) : Ctr l E yX4_directory cX4_directory 3 (some .int) 0 (0) (0) [.ref m, .int x, .int y] [(m, .inr (6, [.int t0, z1, z2, z3, z4, z5, z6, z7, z8, z9, .ref rb, z11, .int rc, z13, z14, z15])), (rb, aI E (180) (rf))] (fun v w => ∃ (r t : Int32), v = some (.int r) ∧ ((0 ≤ x.toInt ∧ x.toInt < (n : Int) ∧ t.toInt = 0 ∧ ((0 ≤ y.toInt ∧ y.toInt ≤ 2 ∧ r = rf (3 * x.toInt.toNat + y.toInt.toNat)) ∨ (¬ (0 ≤ y.toInt ∧ y.toInt ≤ 2) ∧ r.toInt = -1))) ∨ (¬ (0 ≤ x.toInt ∧ x.toInt < (n : Int)) ∧ t.toInt = 1 ∧ r.toInt = 0)) ∧ w = [(m, .inr (6, [.int t, z1, z2, z3, z4, z5, z6, z7, z8, z9, .ref rb, z11, .int rc, z13, z14, z15])), (rb, aI E (180) (rf))]) := by
  refine Ctr.intro (by decide) (Nat.le_of_ble_eq_true rfl) (fun g hgl hN C r F hi => ?_)
  subst hgl
  change G E g [(m, .inr (6, [.int t0, z1, z2, z3, z4, z5, z6, z7, z8, z9, .ref rb, z11, .int rc, z13, z14, z15])), (rb, aI E (180) (rf))] 0 0 0 [(0, .ref m), (1, .int x), (2, .int y)] []
  refine g_aload_n C dX4_directory_0 0 rfl ?_
  refine g_iconst C dX4_directory_1 (by decide) (fun x1 e1 => ?_)
  refine gp_X4_37 C 0 rfl (Nat.le_of_ble_eq_true rfl) rfl rfl dX4_directory_2 ?_
  change G E g [(m, .inr (6, [.int x1, z1, z2, z3, z4, z5, z6, z7, z8, z9, .ref rb, z11, .int rc, z13, z14, z15])), (rb, aI E (180) (rf))] _ _ _ _ _
  refine g_iload_n C dX4_directory_5 1 rfl ?_
  refine g_if_lt C 17 dX4_directory_6 (by decide) (fun c6 => ?_) (fun c6 => ?_)
  · refine g_aload_n C dX4_directory_17 0 rfl ?_
    refine g_iconst C dX4_directory_18 (by decide) (fun x18 e18 => ?_)
    refine gp_X4_37 C 0 rfl (Nat.le_of_ble_eq_true rfl) rfl rfl dX4_directory_19 ?_
    change G E g [(m, .inr (6, [.int x18, z1, z2, z3, z4, z5, z6, z7, z8, z9, .ref rb, z11, .int rc, z13, z14, z15])), (rb, aI E (180) (rf))] _ _ _ _ _
    refine g_iconst C dX4_directory_22 (by decide) (fun x22 e22 => ?_)
    exact g_iret C F dX4_directory_23 rfl rfl (Nat.le_refl _) (Nat.le_refl _) (by exact ⟨_, _, rfl, Or.inr ⟨by omega, by omega, by omega⟩, rfl⟩)
  · refine g_iload_n C dX4_directory_9 1 rfl ?_
    refine g_aload_n C dX4_directory_10 0 rfl ?_
    refine gf_X4_85 C 0 rfl rfl dX4_directory_11 ?_
    refine g_icmp_lt C 24 dX4_directory_14 (by decide) (fun c14 => ?_) (fun c14 => ?_)
    · refine g_iload_n C dX4_directory_24 2 rfl ?_
      refine g_if_lt C 33 dX4_directory_25 (by decide) (fun c25 => ?_) (fun c25 => ?_)
      · refine g_iconst C dX4_directory_33 (by decide) (fun x33 e33 => ?_)
        refine g_goto C 47 dX4_directory_34 (by decide) ?_
        exact g_iret C F dX4_directory_47 rfl rfl (Nat.le_refl _) (Nat.le_refl _) (by exact ⟨_, _, rfl, Or.inl ⟨by omega, by omega, by omega, Or.inr ⟨by omega, by omega⟩⟩, rfl⟩)
      · refine g_iload_n C dX4_directory_28 2 rfl ?_
        refine g_iconst C dX4_directory_29 (by decide) (fun x29 e29 => ?_)
        refine g_icmp_le C 37 dX4_directory_30 (by decide) (fun c30 => ?_) (fun c30 => ?_)
        · refine g_aload_n C dX4_directory_37 0 rfl ?_
          refine gf_X4_27 C 0 rfl rfl dX4_directory_38 ?_
          refine g_iconst C dX4_directory_41 (by decide) (fun x41 e41 => ?_)
          refine g_iload_n C dX4_directory_42 1 rfl ?_
          refine g_imul C dX4_directory_43 (3 * x.toInt) (by rw [e41]) (by omega) (fun x43 e43 => ?_)
          refine g_iload_n C dX4_directory_44 2 rfl ?_
          refine g_iadd C dX4_directory_45 (by omega) (fun x45 e45 => ?_)
          refine g_iaload C 1 rfl dX4_directory_46 (3 * x.toInt.toNat + y.toInt.toNat) (by omega) (by omega) (fun x46 e46 => ?_)
          exact g_iret C F dX4_directory_47 rfl rfl (Nat.le_refl _) (Nat.le_refl _) (by exact ⟨_, _, rfl, Or.inl ⟨by omega, by omega, by omega, Or.inl ⟨by omega, by omega, e46⟩⟩, rfl⟩)
        · refine g_iconst C dX4_directory_33 (by decide) (fun x33 e33 => ?_)
          refine g_goto C 47 dX4_directory_34 (by decide) ?_
          exact g_iret C F dX4_directory_47 rfl rfl (Nat.le_refl _) (Nat.le_refl _) (by exact ⟨_, _, rfl, Or.inl ⟨by omega, by omega, by omega, Or.inr ⟨by omega, by omega⟩⟩, rfl⟩)
    · refine g_aload_n C dX4_directory_17 0 rfl ?_
      refine g_iconst C dX4_directory_18 (by decide) (fun x18 e18 => ?_)
      refine gp_X4_37 C 0 rfl (Nat.le_of_ble_eq_true rfl) rfl rfl dX4_directory_19 ?_
      change G E g [(m, .inr (6, [.int x18, z1, z2, z3, z4, z5, z6, z7, z8, z9, .ref rb, z11, .int rc, z13, z14, z15])), (rb, aI E (180) (rf))] _ _ _ _ _
      refine g_iconst C dX4_directory_22 (by decide) (fun x22 e22 => ?_)
      exact g_iret C F dX4_directory_23 rfl rfl (Nat.le_refl _) (Nat.le_refl _) (by exact ⟨_, _, rfl, Or.inr ⟨by omega, by omega, by omega⟩, rfl⟩)
set_option maxHeartbeats 1000000 in
set_option maxRecDepth 10000 in
theorem c_X4_octet (l : Launch) (E : GE) (m wb : Nat) (wf : Nat → Int32) (t0 wz x : Int32) (o : List Nat) (z1 z2 z3 z4 z5 z6 z7 z8 z9 z10 z11 z12 z15 : Value) (hwz : wz.toInt = (o.length : Int)) (ho : o.length ≤ 115000) (hB : Bs wf 0 o) : Ctr l E yX4_octet cX4_octet 2 (some .byte) 0 (0) (0) [.ref m, .int x] [(m, .inr (6, [.int t0, z1, z2, z3, z4, z5, z6, z7, z8, z9, z10, z11, z12, .ref wb, .int wz, z15])), (wb, aB E (115000) (wf))] (fun v w => ∃ (r t : Int32), v = some (.int r) ∧ ((0 ≤ x.toInt ∧ x.toInt < (o.length : Int) ∧ t.toInt = 0 ∧ r = sB (o.getD x.toInt.toNat 0)) ∨ (¬ (0 ≤ x.toInt ∧ x.toInt < (o.length : Int)) ∧ t.toInt = 1 ∧ r.toInt = 0)) ∧ w = [(m, .inr (6, [.int t, z1, z2, z3, z4, z5, z6, z7, z8, z9, z10, z11, z12, .ref wb, .int wz, z15])), (wb, aB E (115000) (wf))]) := by
  refine Ctr.intro (by decide) (Nat.le_of_ble_eq_true rfl) (fun g hgl hN C r F hi => ?_)
  subst hgl
  change G E g [(m, .inr (6, [.int t0, z1, z2, z3, z4, z5, z6, z7, z8, z9, z10, z11, z12, .ref wb, .int wz, z15])), (wb, aB E (115000) (wf))] 0 0 0 [(0, .ref m), (1, .int x)] []
  refine g_aload_n C dX4_octet_0 0 rfl ?_
  refine g_iconst C dX4_octet_1 (by decide) (fun x1 e1 => ?_)
  refine gp_X4_37 C 0 rfl (Nat.le_of_ble_eq_true rfl) rfl rfl dX4_octet_2 ?_
  change G E g [(m, .inr (6, [.int x1, z1, z2, z3, z4, z5, z6, z7, z8, z9, z10, z11, z12, .ref wb, .int wz, z15])), (wb, aB E (115000) (wf))] _ _ _ _ _
  refine g_iload_n C dX4_octet_5 1 rfl ?_
  refine g_if_lt C 17 dX4_octet_6 (by decide) (fun c6 => ?_) (fun c6 => ?_)
  · refine g_aload_n C dX4_octet_17 0 rfl ?_
    refine g_iconst C dX4_octet_18 (by decide) (fun x18 e18 => ?_)
    refine gp_X4_37 C 0 rfl (Nat.le_of_ble_eq_true rfl) rfl rfl dX4_octet_19 ?_
    change G E g [(m, .inr (6, [.int x18, z1, z2, z3, z4, z5, z6, z7, z8, z9, z10, z11, z12, .ref wb, .int wz, z15])), (wb, aB E (115000) (wf))] _ _ _ _ _
    refine g_iconst C dX4_octet_22 (by decide) (fun x22 e22 => ?_)
    exact g_iret C F dX4_octet_23 rfl (by rw [ti_inj (y := 0) e22]; rfl) (Nat.le_refl _) (Nat.le_refl _) (by exact ⟨_, _, rfl, Or.inr ⟨by omega, by omega, by omega⟩, rfl⟩)
  · refine g_iload_n C dX4_octet_9 1 rfl ?_
    refine g_aload_n C dX4_octet_10 0 rfl ?_
    refine gf_X4_118 C 0 rfl rfl dX4_octet_11 ?_
    refine g_icmp_lt C 24 dX4_octet_14 (by decide) (fun c14 => ?_) (fun c14 => ?_)
    · refine g_aload_n C dX4_octet_24 0 rfl ?_
      refine gf_X4_34 C 0 rfl rfl dX4_octet_25 ?_
      refine g_iload_n C dX4_octet_28 1 rfl ?_
      refine g_baload C 1 rfl dX4_octet_29 (0 + x.toInt.toNat) (by omega) (by omega) (fun x29 e29 => ?_)
      exact g_iret C F dX4_octet_30 rfl (nb_sB e29 (hB _ (by omega))) (Nat.le_refl _) (Nat.le_refl _) (by exact ⟨_, _, rfl, Or.inl ⟨by omega, by omega, by omega, by rw [e29]; exact hB _ (by omega)⟩, rfl⟩)
    · refine g_aload_n C dX4_octet_17 0 rfl ?_
      refine g_iconst C dX4_octet_18 (by decide) (fun x18 e18 => ?_)
      refine gp_X4_37 C 0 rfl (Nat.le_of_ble_eq_true rfl) rfl rfl dX4_octet_19 ?_
      change G E g [(m, .inr (6, [.int x18, z1, z2, z3, z4, z5, z6, z7, z8, z9, z10, z11, z12, .ref wb, .int wz, z15])), (wb, aB E (115000) (wf))] _ _ _ _ _
      refine g_iconst C dX4_octet_22 (by decide) (fun x22 e22 => ?_)
      exact g_iret C F dX4_octet_23 rfl (by rw [ti_inj (y := 0) e22]; rfl) (Nat.le_refl _) (Nat.le_refl _) (by exact ⟨_, _, rfl, Or.inr ⟨by omega, by omega, by omega⟩, rfl⟩)
set_option maxHeartbeats 1000000 in
set_option maxRecDepth 10000 in
theorem c_X4_isAny (l : Launch) (E : GE) (x : Int32)  : Ctr l E yX4_isAny cX4_isAny 1 (some .boolean) 0 (0) (0) [.int x] [] (oI (fun r => (r.toInt = 1 ∧ ((5 ≤ x.toInt ∧ x.toInt ≤ 9) ∨ (17 ≤ x.toInt ∧ x.toInt ≤ 19) ∨ x.toInt = 22 ∨ x.toInt = 23)) ∨ (r.toInt = 0 ∧ ¬ ((5 ≤ x.toInt ∧ x.toInt ≤ 9) ∨ (17 ≤ x.toInt ∧ x.toInt ≤ 19) ∨ x.toInt = 22 ∨ x.toInt = 23))) []) := by
  refine Ctr.intro (by decide) (Nat.le_of_ble_eq_true rfl) (fun g hgl hN C r F hi => ?_)
  subst hgl
  change G E g [] 0 0 0 [(0, .int x)] []
  refine g_iload_n C dX4_isAny_0 0 rfl ?_
  refine g_iconst C dX4_isAny_1 (by decide) (fun x1 e1 => ?_)
  refine g_icmp_lt C 11 dX4_isAny_2 (by decide) (fun c2 => ?_) (fun c2 => ?_)
  · refine g_iload_n C dX4_isAny_11 0 rfl ?_
    refine g_bipush C dX4_isAny_12 (by decide) (fun x12 e12 => ?_)
    refine g_icmp_lt C 23 dX4_isAny_14 (by decide) (fun c14 => ?_) (fun c14 => ?_)
    · refine g_iload_n C dX4_isAny_23 0 rfl ?_
      refine g_bipush C dX4_isAny_24 (by decide) (fun x24 e24 => ?_)
      refine g_icmp_eq C 35 dX4_isAny_26 (by decide) (fun c26 => ?_) (fun c26 => ?_)
      · refine g_iconst C dX4_isAny_35 (by decide) (fun x35 e35 => ?_)
        refine g_goto C 40 dX4_isAny_36 (by decide) ?_
        exact g_iret C F dX4_isAny_40 rfl (nz_b x35 (by omega)) (Nat.le_refl _) (Nat.le_refl _) (by exact ⟨_, rfl, by omega, rfl⟩)
      · refine g_iload_n C dX4_isAny_29 0 rfl ?_
        refine g_bipush C dX4_isAny_30 (by decide) (fun x30 e30 => ?_)
        refine g_icmp_ne C 39 dX4_isAny_32 (by decide) (fun c32 => ?_) (fun c32 => ?_)
        · refine g_iconst C dX4_isAny_39 (by decide) (fun x39 e39 => ?_)
          exact g_iret C F dX4_isAny_40 rfl (nz_b x39 (by omega)) (Nat.le_refl _) (Nat.le_refl _) (by exact ⟨_, rfl, by omega, rfl⟩)
        · refine g_iconst C dX4_isAny_35 (by decide) (fun x35 e35 => ?_)
          refine g_goto C 40 dX4_isAny_36 (by decide) ?_
          exact g_iret C F dX4_isAny_40 rfl (nz_b x35 (by omega)) (Nat.le_refl _) (Nat.le_refl _) (by exact ⟨_, rfl, by omega, rfl⟩)
    · refine g_iload_n C dX4_isAny_17 0 rfl ?_
      refine g_bipush C dX4_isAny_18 (by decide) (fun x18 e18 => ?_)
      refine g_icmp_le C 35 dX4_isAny_20 (by decide) (fun c20 => ?_) (fun c20 => ?_)
      · refine g_iconst C dX4_isAny_35 (by decide) (fun x35 e35 => ?_)
        refine g_goto C 40 dX4_isAny_36 (by decide) ?_
        exact g_iret C F dX4_isAny_40 rfl (nz_b x35 (by omega)) (Nat.le_refl _) (Nat.le_refl _) (by exact ⟨_, rfl, by omega, rfl⟩)
      · refine g_iload_n C dX4_isAny_23 0 rfl ?_
        refine g_bipush C dX4_isAny_24 (by decide) (fun x24 e24 => ?_)
        refine g_icmp_eq C 35 dX4_isAny_26 (by decide) (fun c26 => ?_) (fun c26 => ?_)
        · refine g_iconst C dX4_isAny_35 (by decide) (fun x35 e35 => ?_)
          refine g_goto C 40 dX4_isAny_36 (by decide) ?_
          exact g_iret C F dX4_isAny_40 rfl (nz_b x35 (by omega)) (Nat.le_refl _) (Nat.le_refl _) (by exact ⟨_, rfl, by omega, rfl⟩)
        · refine g_iload_n C dX4_isAny_29 0 rfl ?_
          refine g_bipush C dX4_isAny_30 (by decide) (fun x30 e30 => ?_)
          refine g_icmp_ne C 39 dX4_isAny_32 (by decide) (fun c32 => ?_) (fun c32 => ?_)
          · refine g_iconst C dX4_isAny_39 (by decide) (fun x39 e39 => ?_)
            exact g_iret C F dX4_isAny_40 rfl (nz_b x39 (by omega)) (Nat.le_refl _) (Nat.le_refl _) (by exact ⟨_, rfl, by omega, rfl⟩)
          · refine g_iconst C dX4_isAny_35 (by decide) (fun x35 e35 => ?_)
            refine g_goto C 40 dX4_isAny_36 (by decide) ?_
            exact g_iret C F dX4_isAny_40 rfl (nz_b x35 (by omega)) (Nat.le_refl _) (Nat.le_refl _) (by exact ⟨_, rfl, by omega, rfl⟩)
  · refine g_iload_n C dX4_isAny_5 0 rfl ?_
    refine g_bipush C dX4_isAny_6 (by decide) (fun x6 e6 => ?_)
    refine g_icmp_le C 35 dX4_isAny_8 (by decide) (fun c8 => ?_) (fun c8 => ?_)
    · refine g_iconst C dX4_isAny_35 (by decide) (fun x35 e35 => ?_)
      refine g_goto C 40 dX4_isAny_36 (by decide) ?_
      exact g_iret C F dX4_isAny_40 rfl (nz_b x35 (by omega)) (Nat.le_refl _) (Nat.le_refl _) (by exact ⟨_, rfl, by omega, rfl⟩)
    · refine g_iload_n C dX4_isAny_11 0 rfl ?_
      refine g_bipush C dX4_isAny_12 (by decide) (fun x12 e12 => ?_)
      refine g_icmp_lt C 23 dX4_isAny_14 (by decide) (fun c14 => ?_) (fun c14 => ?_)
      · refine g_iload_n C dX4_isAny_23 0 rfl ?_
        refine g_bipush C dX4_isAny_24 (by decide) (fun x24 e24 => ?_)
        refine g_icmp_eq C 35 dX4_isAny_26 (by decide) (fun c26 => ?_) (fun c26 => ?_)
        · refine g_iconst C dX4_isAny_35 (by decide) (fun x35 e35 => ?_)
          refine g_goto C 40 dX4_isAny_36 (by decide) ?_
          exact g_iret C F dX4_isAny_40 rfl (nz_b x35 (by omega)) (Nat.le_refl _) (Nat.le_refl _) (by exact ⟨_, rfl, by omega, rfl⟩)
        · refine g_iload_n C dX4_isAny_29 0 rfl ?_
          refine g_bipush C dX4_isAny_30 (by decide) (fun x30 e30 => ?_)
          refine g_icmp_ne C 39 dX4_isAny_32 (by decide) (fun c32 => ?_) (fun c32 => ?_)
          · refine g_iconst C dX4_isAny_39 (by decide) (fun x39 e39 => ?_)
            exact g_iret C F dX4_isAny_40 rfl (nz_b x39 (by omega)) (Nat.le_refl _) (Nat.le_refl _) (by exact ⟨_, rfl, by omega, rfl⟩)
          · refine g_iconst C dX4_isAny_35 (by decide) (fun x35 e35 => ?_)
            refine g_goto C 40 dX4_isAny_36 (by decide) ?_
            exact g_iret C F dX4_isAny_40 rfl (nz_b x35 (by omega)) (Nat.le_refl _) (Nat.le_refl _) (by exact ⟨_, rfl, by omega, rfl⟩)
      · refine g_iload_n C dX4_isAny_17 0 rfl ?_
        refine g_bipush C dX4_isAny_18 (by decide) (fun x18 e18 => ?_)
        refine g_icmp_le C 35 dX4_isAny_20 (by decide) (fun c20 => ?_) (fun c20 => ?_)
        · refine g_iconst C dX4_isAny_35 (by decide) (fun x35 e35 => ?_)
          refine g_goto C 40 dX4_isAny_36 (by decide) ?_
          exact g_iret C F dX4_isAny_40 rfl (nz_b x35 (by omega)) (Nat.le_refl _) (Nat.le_refl _) (by exact ⟨_, rfl, by omega, rfl⟩)
        · refine g_iload_n C dX4_isAny_23 0 rfl ?_
          refine g_bipush C dX4_isAny_24 (by decide) (fun x24 e24 => ?_)
          refine g_icmp_eq C 35 dX4_isAny_26 (by decide) (fun c26 => ?_) (fun c26 => ?_)
          · refine g_iconst C dX4_isAny_35 (by decide) (fun x35 e35 => ?_)
            refine g_goto C 40 dX4_isAny_36 (by decide) ?_
            exact g_iret C F dX4_isAny_40 rfl (nz_b x35 (by omega)) (Nat.le_refl _) (Nat.le_refl _) (by exact ⟨_, rfl, by omega, rfl⟩)
          · refine g_iload_n C dX4_isAny_29 0 rfl ?_
            refine g_bipush C dX4_isAny_30 (by decide) (fun x30 e30 => ?_)
            refine g_icmp_ne C 39 dX4_isAny_32 (by decide) (fun c32 => ?_) (fun c32 => ?_)
            · refine g_iconst C dX4_isAny_39 (by decide) (fun x39 e39 => ?_)
              exact g_iret C F dX4_isAny_40 rfl (nz_b x39 (by omega)) (Nat.le_refl _) (Nat.le_refl _) (by exact ⟨_, rfl, by omega, rfl⟩)
            · refine g_iconst C dX4_isAny_35 (by decide) (fun x35 e35 => ?_)
              refine g_goto C 40 dX4_isAny_36 (by decide) ?_
              exact g_iret C F dX4_isAny_40 rfl (nz_b x35 (by omega)) (Nat.le_refl _) (Nat.le_refl _) (by exact ⟨_, rfl, by omega, rfl⟩)
set_option maxHeartbeats 1000000 in
set_option maxRecDepth 10000 in
theorem c_X4_add (l : Launch) (E : GE) (m ib : Nat) (f : Nat → Int32) (t0 sz x : Int32) (S : Nat) (z3 z4 z5 z6 z7 z8 z9 z10 z11 z12 z13 z14 z15 : Value) (hS : sz.toInt = (S : Int)) (hSm : S ≤ 1500) : Ctr l E yX4_add cX4_add 2 none 0 (0) (0) [.ref m, .int x] [(m, .inr (6, [.int t0, .ref ib, .int sz, z3, z4, z5, z6, z7, z8, z9, z10, z11, z12, z13, z14, z15])), (ib, aB E (1500) (f))] (fun v w => v = none ∧ ∃ (t s : Int32) (f2 : Nat → Int32), t.toInt = 0 ∧ ((S < 1500 ∧ s.toInt = ((S + 1 : Nat) : Int) ∧ f2 = upd f S (sB (u8 x))) ∨ (¬ S < 1500 ∧ s = sz ∧ f2 = f)) ∧ w = [(m, .inr (6, [.int t, .ref ib, .int s, z3, z4, z5, z6, z7, z8, z9, z10, z11, z12, z13, z14, z15])), (ib, aB E (1500) (f2))]) := by
  refine Ctr.intro (by decide) (Nat.le_of_ble_eq_true rfl) (fun g hgl hN C r F hi => ?_)
  subst hgl
  change G E g [(m, .inr (6, [.int t0, .ref ib, .int sz, z3, z4, z5, z6, z7, z8, z9, z10, z11, z12, z13, z14, z15])), (ib, aB E (1500) (f))] 0 0 0 [(0, .ref m), (1, .int x)] []
  refine g_aload_n C dX4_add_0 0 rfl ?_
  refine g_iconst C dX4_add_1 (by decide) (fun x1 e1 => ?_)
  refine gp_X4_37 C 0 rfl (Nat.le_of_ble_eq_true rfl) rfl rfl dX4_add_2 ?_
  change G E g [(m, .inr (6, [.int x1, .ref ib, .int sz, z3, z4, z5, z6, z7, z8, z9, z10, z11, z12, z13, z14, z15])), (ib, aB E (1500) (f))] _ _ _ _ _
  refine g_aload_n C dX4_add_5 0 rfl ?_
  refine gf_X4_41 C 0 rfl rfl dX4_add_6 ?_
  refine g_sipush C dX4_add_9 (by decide) (fun x9 e9 => ?_)
  refine g_icmp_ge C 35 dX4_add_12 (by decide) (fun c12 => ?_) (fun c12 => ?_)
  · exact g_vret C F dX4_add_35 (Nat.le_refl _) (Nat.le_refl _) (by exact ⟨rfl, _, _, _, by omega, Or.inr ⟨by omega, rfl, rfl⟩, rfl⟩)
  · refine g_aload_n C dX4_add_15 0 rfl ?_
    refine gf_X4_7 C 0 rfl rfl dX4_add_16 ?_
    refine g_aload_n C dX4_add_19 0 rfl ?_
    refine gf_X4_41 C 0 rfl rfl dX4_add_20 ?_
    refine g_iload_n C dX4_add_23 1 rfl ?_
    refine g_bastore C 1 rfl dX4_add_24 (S) (by omega) (by omega) ?_
    change G E g [(m, .inr (6, [.int x1, .ref ib, .int sz, z3, z4, z5, z6, z7, z8, z9, z10, z11, z12, z13, z14, z15])), (ib, aB E (1500) (upd (f) (S) (sB (u8 x))))] _ _ _ _ _
    refine g_aload_n C dX4_add_25 0 rfl ?_
    refine g_dup C dX4_add_26 rfl ?_
    refine gf_X4_41 C 0 rfl rfl dX4_add_27 ?_
    refine g_iconst C dX4_add_30 (by decide) (fun x30 e30 => ?_)
    refine g_iadd C dX4_add_31 (by omega) (fun x31 e31 => ?_)
    refine gp_X4_41 C 0 rfl (Nat.le_of_ble_eq_true rfl) rfl rfl dX4_add_32 ?_
    change G E g [(m, .inr (6, [.int x1, .ref ib, .int x31, z3, z4, z5, z6, z7, z8, z9, z10, z11, z12, z13, z14, z15])), (ib, aB E (1500) (upd (f) (S) (sB (u8 x))))] _ _ _ _ _
    exact g_vret C F dX4_add_35 (Nat.le_refl _) (Nat.le_refl _) (by exact ⟨rfl, _, _, _, by omega, Or.inl ⟨by omega, by omega, rfl⟩, rfl⟩)
set_option maxHeartbeats 1000000 in
set_option maxRecDepth 10000 in
theorem c_X4_say (l : Launch) (E : GE) (m wb : Nat) (wf : Nat → Int32) (wz : Int32) (o : List Nat) (z0 z1 z2 z3 z4 z5 z6 z7 z8 z9 z10 z11 z12 z15 : Value) (x : Int32) (hwz : wz.toInt = (o.length : Int)) (hB : Bs wf 0 o) (hl : o.length < 115000) : Ctr l E yX4_say cX4_say 2 none 0 (0) (0) [.ref m, .int x] [(m, .inr (6, [z0, z1, z2, z3, z4, z5, z6, z7, z8, z9, z10, z11, z12, .ref wb, .int wz, z15])), (wb, aB E (115000) (wf))] (fun v w => v = none ∧ ∃ (f2 : Nat → Int32) (s : Int32), s.toInt = ((o ++ [u8 x]).length : Int) ∧ Bs f2 0 (o ++ [u8 x]) ∧ w = [(m, .inr (6, [z0, z1, z2, z3, z4, z5, z6, z7, z8, z9, z10, z11, z12, .ref wb, .int s, z15])), (wb, aB E (115000) (f2))]) := by
  refine Ctr.intro (by decide) (Nat.le_of_ble_eq_true rfl) (fun g hgl hN C r F hi => ?_)
  subst hgl
  change G E g [(m, .inr (6, [z0, z1, z2, z3, z4, z5, z6, z7, z8, z9, z10, z11, z12, .ref wb, .int wz, z15])), (wb, aB E (115000) (wf))] 0 0 0 [(0, .ref m), (1, .int x)] []
  refine g_aload_n C dX4_say_0 0 rfl ?_
  refine gf_X4_34 C 0 rfl rfl dX4_say_1 ?_
  refine g_aload_n C dX4_say_4 0 rfl ?_
  refine gf_X4_118 C 0 rfl rfl dX4_say_5 ?_
  refine g_iload_n C dX4_say_8 1 rfl ?_
  refine g_i2b C dX4_say_9 (fun x9 e9 => ?_)
  refine g_bastore C 1 rfl dX4_say_10 (0 + o.length) (by omega) (by omega) ?_
  change G E g [(m, .inr (6, [z0, z1, z2, z3, z4, z5, z6, z7, z8, z9, z10, z11, z12, .ref wb, .int wz, z15])), (wb, aB E (115000) (upd (wf) (0 + o.length) (sB (u8 x9))))] _ _ _ _ _
  refine g_aload_n C dX4_say_11 0 rfl ?_
  refine g_dup C dX4_say_12 rfl ?_
  refine gf_X4_118 C 0 rfl rfl dX4_say_13 ?_
  refine g_iconst C dX4_say_16 (by decide) (fun x16 e16 => ?_)
  refine g_iadd C dX4_say_17 (by omega) (fun x17 e17 => ?_)
  refine gp_X4_118 C 0 rfl (Nat.le_of_ble_eq_true rfl) rfl rfl dX4_say_18 ?_
  change G E g [(m, .inr (6, [z0, z1, z2, z3, z4, z5, z6, z7, z8, z9, z10, z11, z12, .ref wb, .int x17, z15])), (wb, aB E (115000) (upd (wf) (0 + o.length) (sB (u8 x9))))] _ _ _ _ _
  exact g_vret C F dX4_say_21 (Nat.le_refl _) (Nat.le_refl _) (by exact ⟨rfl, _, _, by simp; omega, by rw [e9, sB_u8_sB]; exact Bs_snoc hB (u8 x), rfl⟩)
set_option maxHeartbeats 1000000 in
set_option maxRecDepth 10000 in
theorem c_X4_sayNumber (l : Launch) (E : GE) (m wb : Nat) (wf : Nat → Int32) (wz : Int32) (o : List Nat) (z0 z1 z2 z3 z4 z5 z6 z7 z8 z9 z10 z11 z12 z15 : Value) (x y : Int32) (nv k : Nat) (hwz : wz.toInt = (o.length : Int)) (hB : Bs wf 0 o) (hx : x.toInt = (nv : Int)) (hy : y.toInt = (k : Int)) (hk : 1 ≤ k ∧ k ≤ 5) (hl : o.length + k ≤ 115000) : Ctr l E yX4_sayNumber cX4_sayNumber 5 none 1 (0) (0) [.ref m, .int x, .int y] [(m, .inr (6, [z0, z1, z2, z3, z4, z5, z6, z7, z8, z9, z10, z11, z12, .ref wb, .int wz, z15])), (wb, aB E (115000) (wf))] (fun v w => v = none ∧ ∃ (f2 : Nat → Int32) (s : Int32), s.toInt = ((o ++ dg nv k).length : Int) ∧ Bs f2 0 (o ++ dg nv k) ∧ w = [(m, .inr (6, [z0, z1, z2, z3, z4, z5, z6, z7, z8, z9, z10, z11, z12, .ref wb, .int s, z15])), (wb, aB E (115000) (f2))]) := by
  refine Ctr.intro (by decide) (Nat.le_of_ble_eq_true rfl) (fun g hgl hN C r F hi => ?_)
  subst hgl
  change G E g [(m, .inr (6, [z0, z1, z2, z3, z4, z5, z6, z7, z8, z9, z10, z11, z12, .ref wb, .int wz, z15])), (wb, aB E (115000) (wf))] 0 0 0 [(0, .ref m), (1, .int x), (2, .int y)] []
  refine g_iconst C dX4_sayNumber_0 (by decide) (fun x0 e0 => ?_)
  refine g_istore_n C dX4_sayNumber_1 (by rw [hN]; decide) (lv' := [(3, .int x0), (0, .ref m), (1, .int x), (2, .int y)]) rfl ?_
  refine g_iconst C dX4_sayNumber_2 (by decide) (fun x2 e2 => ?_)
  refine g_istore C dX4_sayNumber_3 (by rw [hN]; decide) (lv' := [(4, .int x2), (3, .int x0), (0, .ref m), (1, .int x), (2, .int y)]) rfl ?_
  have loop5 : ∀ (nn : Nat) (n3 : Int32) (n4 : Int32) (i : Nat) (hm : k - i < nn) (hi : 1 ≤ i ∧ i ≤ k) (h4 : n4.toInt = (i : Int)) (h3 : n3.toInt = (p10 (i - 1) : Int)), G E g [(m, .inr (6, [z0, z1, z2, z3, z4, z5, z6, z7, z8, z9, z10, z11, z12, .ref wb, .int wz, z15])), (wb, aB E (115000) (wf))] 0 0 5 [(0, .ref m), (1, .int x), (2, .int y), (3, .int n3), (4, .int n4)] [] := by
    intro nn
    induction nn with
    | zero => intro n3 n4 i hm hi h4 h3; omega
    | succ nn ih5 =>
      intro n3 n4 i hm hi h4 h3
      have hp := p10_le (j := i - 1) (by omega)
      refine g_iload C dX4_sayNumber_5 4 rfl ?_
      refine g_iload_n C dX4_sayNumber_7 2 rfl ?_
      refine g_icmp_ge C 22 dX4_sayNumber_8 (by decide) (fun c8 => ?_) (fun c8 => ?_)
      · refine g_iload_n C dX4_sayNumber_22 3 rfl ?_
        refine g_istore C dX4_sayNumber_23 (by rw [hN]; decide) (lv' := [(4, .int n3), (0, .ref m), (1, .int x), (2, .int y), (3, .int n3)]) rfl ?_
        have loop25 : ∀ (nn : Nat) (q4 : Int32) (fk : Nat → Int32) (zk : Int32) (ok : List Nat) (j : Nat) (hm : j < nn) (hj : j ≤ k) (hq4 : (j = 0 ∧ q4.toInt = 0) ∨ (1 ≤ j ∧ q4.toInt = (p10 (j - 1) : Int))) (hzk : zk.toInt = (ok.length : Int)) (hbk : Bs fk 0 ok) (hok : ok ++ dg nv j = o ++ dg nv k), G E g [(m, .inr (6, [z0, z1, z2, z3, z4, z5, z6, z7, z8, z9, z10, z11, z12, .ref wb, .int zk, z15])), (wb, aB E (115000) (fk))] 0 0 25 [(0, .ref m), (1, .int x), (2, .int y), (3, .int n3), (4, .int q4)] [] := by
          intro nn
          induction nn with
          | zero => intro q4 fk zk ok j hm hj hq4 hzk hbk hok; omega
          | succ nn ih25 =>
            intro q4 fk zk ok j hm hj hq4 hzk hbk hok
            have hpos := p10_pos (j - 1)
            refine g_iload C dX4_sayNumber_25 4 rfl ?_
            refine g_if_le C 54 dX4_sayNumber_27 (by decide) (fun c27 => ?_) (fun c27 => ?_)
            · exact g_vret C F dX4_sayNumber_54 (Nat.le_refl _) (Nat.le_refl _) (by have hz := sn_end (by omega) hok; subst hz; exact ⟨rfl, _, _, hzk, hbk, rfl⟩)
            · obtain ⟨hj1, hq9⟩ : 1 ≤ j ∧ q4.toInt = (p10 (j - 1) : Int) := by omega
              have hlen := sn_len hok
              have hpl := p10_le (j := j - 1) (by omega)
              refine g_aload_n C dX4_sayNumber_30 0 rfl ?_
              refine g_bipush C dX4_sayNumber_31 (by decide) (fun x31 e31 => ?_)
              refine g_iload_n C dX4_sayNumber_33 1 rfl ?_
              refine g_iload C dX4_sayNumber_34 4 rfl ?_
              refine g_idiv C dX4_sayNumber_36 ((p10 (j - 1) : Int)) (hq9) (⟨by omega, by omega⟩) (fun x36 e36 => ?_)
              refine g_bipush C dX4_sayNumber_37 (by decide) (fun x37 e37 => ?_)
              refine g_irem C dX4_sayNumber_39 (10) (e37) (⟨by rw [sn_div hx e36]; exact Int.natCast_nonneg _, by omega⟩) (fun x39 e39 => ?_)
              refine g_iadd C dX4_sayNumber_40 (by omega) (fun x40 e40 => ?_)
              refine g_callV C r mv_X4_121 dX4_sayNumber_41 (c_X4_say g.l E m wb fk zk ok z0 z1 z2 z3 z4 z5 z6 z7 z8 z9 z10 z11 z12 z15 x40 hzk hbk (by omega)) (wr := []) (As := [.int x40]) (rest := []) (Spl.at [] [0, 1] rfl rfl rfl) 0 rfl rfl rfl rfl (Nat.le_of_ble_eq_true rfl) (by decide) (Nat.le_refl _) (Nat.le_refl _) (fun v w h => ?_)
              obtain ⟨rfl, f41, s41, es41, eb41, rfl⟩ := h
              change G E g [(m, .inr (6, [z0, z1, z2, z3, z4, z5, z6, z7, z8, z9, z10, z11, z12, .ref wb, .int s41, z15])), (wb, aB E (115000) (f41))] _ _ _ _ []
              refine g_iload C dX4_sayNumber_44 4 rfl ?_
              refine g_bipush C dX4_sayNumber_46 (by decide) (fun x46 e46 => ?_)
              refine g_idiv C dX4_sayNumber_48 (10) (e46) (by omega) (fun x48 e48 => ?_)
              refine g_istore C dX4_sayNumber_49 (by rw [hN]; decide) (lv' := [(4, .int x48), (0, .ref m), (1, .int x), (2, .int y), (3, .int n3)]) rfl ?_
              refine g_goto C 25 dX4_sayNumber_51 (by decide) ?_
              refine g_lv [1, 2, 3, 4, 0] (lv' := [(0, .ref m), (1, .int x), (2, .int y), (3, .int n3), (4, .int x48)]) rfl ?_
              exact ih25 (x48) (f41) (s41) (ok ++ [u8 x40]) (j - 1) (by omega) (by omega) (by exact sn_q hj1 hq9 e48) (by exact es41) (by exact eb41) (by rw [← hok, sn_hd hj1, sn_dig (sn_div hx e36) e39 (by omega)]; simp)
        refine g_lv [1, 2, 3, 4, 0] (lv' := [(0, .ref m), (1, .int x), (2, .int y), (3, .int n3), (4, .int n3)]) rfl ?_
        exact loop25 _ (n3) (wf) (wz) (o) (k) (Nat.lt_succ_self _) (by omega) (by exact Or.inr ⟨by omega, by rw [h3, show i = k by omega]⟩) (by exact hwz) (by exact hB) (by rfl)
      · refine g_bipush C dX4_sayNumber_11 (by decide) (fun x11 e11 => ?_)
        refine g_iload_n C dX4_sayNumber_13 3 rfl ?_
        refine g_imul C dX4_sayNumber_14 (10 * n3.toInt) (by rw [e11]) (by omega) (fun x14 e14 => ?_)
        refine g_istore_n C dX4_sayNumber_15 (by rw [hN]; decide) (lv' := [(3, .int x14), (0, .ref m), (1, .int x), (2, .int y), (4, .int n4)]) rfl ?_
        refine g_iinc C dX4_sayNumber_16 4 rfl (by rw [hN]; decide) (by decide) (by omega) (fun x16 e16 => ?_)
        refine g_lvE (lv' := [(4, .int x16), (3, .int x14), (0, .ref m), (1, .int x), (2, .int y)]) rfl ?_
        refine g_goto C 5 dX4_sayNumber_19 (by decide) ?_
        refine g_lv [2, 3, 4, 1, 0] (lv' := [(0, .ref m), (1, .int x), (2, .int y), (3, .int x14), (4, .int x16)]) rfl ?_
        exact ih5 (x14) (x16) (i + 1) (by omega) (by omega) (by omega) (by rw [p10_1 hi.1, e14, h3]; omega)
  refine g_lv [2, 3, 4, 1, 0] (lv' := [(0, .ref m), (1, .int x), (2, .int y), (3, .int x0), (4, .int x2)]) rfl ?_
  exact loop5 _ (x0) (x2) (1) (Nat.lt_succ_self _) (by omega) (by omega) (by rw [e0]; rfl)
