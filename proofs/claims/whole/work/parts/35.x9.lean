set_option maxHeartbeats 1000000 in
set_option maxRecDepth 10000 in
theorem c_X3_octet (l : Launch) (E : GE) (x op ob cap : Nat) (of : Nat → Int32) (os y : Int32) (o : List Nat) (z0 z2 z3 z4 z5 z6 z7 : Value) (hos : os.toInt = (o.length : Int)) (hB : Bs of 0 o) (hcp : o.length ≤ cap) (hin : 0 ≤ y.toInt ∧ y.toInt < (o.length : Int)) : Ctr l E yX3_octet cX3_octet 2 (some .byte) 2 (0) (0) [.ref x, .int y] [(x, .inr (5, [z0, .ref op, z2, z3, z4, z5, z6, z7])), (op, .inr (4, [.ref ob, .int os])), (ob, aB E (cap) (of))] (oI (fun r => r = sB (o.getD y.toInt.toNat 0)) [(x, .inr (5, [z0, .ref op, z2, z3, z4, z5, z6, z7])), (op, .inr (4, [.ref ob, .int os])), (ob, aB E (cap) (of))]) := by
  refine Ctr.intro (by decide) (Nat.le_of_ble_eq_true rfl) (fun g hgl hN C r F hi => ?_)
  subst hgl
  change G E g [(x, .inr (5, [z0, .ref op, z2, z3, z4, z5, z6, z7])), (op, .inr (4, [.ref ob, .int os])), (ob, aB E (cap) (of))] 0 0 0 [(0, .ref x), (1, .int y)] []
  refine g_aload_n C dX3_octet_0 0 rfl ?_
  refine gf_X3_19 C 0 rfl rfl dX3_octet_1 ?_
  refine g_iload_n C dX3_octet_4 1 rfl ?_
  refine g_callV C r mv_X3_158 dX3_octet_5 (c_X2_has g.l E op ob os y) (wr := [(x, .inr (5, [z0, .ref op, z2, z3, z4, z5, z6, z7])), (ob, aB E (cap) (of))]) (As := [.int y]) (rest := []) (Spl.at [0, 2] [1] rfl rfl rfl) 0 rfl rfl rfl rfl (Nat.le_of_ble_eq_true rfl) (by decide) (Nat.le_refl _) (Nat.le_refl _) (fun v w h => ?_)
  obtain ⟨x5, rfl, e5, rfl⟩ := h
  change G E g [(x, .inr (5, [z0, .ref op, z2, z3, z4, z5, z6, z7])), (ob, aB E (cap) (of)), (op, .inr (4, [.ref ob, .int os]))] _ _ _ _ [.int x5]
  refine g_if_ne C 21 dX3_octet_8 (by decide) (fun c8 => ?_) (fun c8 => ?_)
  · replace e5 := bl1 e5 c8
    refine g_aload_n C dX3_octet_21 0 rfl ?_
    refine gf_X3_19 C 0 rfl rfl dX3_octet_22 ?_
    refine g_iload_n C dX3_octet_25 1 rfl ?_
    refine g_callV C r mv_X3_163 dX3_octet_26 (c_X2_at g.l E op ob cap of os y o hos hB hcp hin.1 hin.2) (wr := [(x, .inr (5, [z0, .ref op, z2, z3, z4, z5, z6, z7]))]) (As := [.int y]) (rest := []) (Spl.at [0] [2, 1] rfl rfl rfl) 0 rfl rfl rfl rfl (Nat.le_of_ble_eq_true rfl) (by decide) (Nat.le_refl _) (Nat.le_refl _) (fun v w h => ?_)
    obtain ⟨x26, rfl, e26, rfl⟩ := h
    change G E g [(x, .inr (5, [z0, .ref op, z2, z3, z4, z5, z6, z7])), (op, .inr (4, [.ref ob, .int os])), (ob, aB E (cap) (of))] _ _ _ _ [.int x26]
    exact g_iret C F dX3_octet_29 rfl (nb_sB e26 rfl) (Nat.le_refl _) (Nat.le_refl _) (by exact ⟨_, rfl, e26, rfl⟩)
  · exfalso; omega
set_option maxHeartbeats 1000000 in
set_option maxRecDepth 10000 in
theorem c_X3_octetX (l : Launch) (hl : l.stackTraces = false) (E : GE) (x op ob cap : Nat) (of : Nat → Int32) (os y : Int32) (o : List Nat) (z0 z2 z3 z4 z5 z6 z7 : Value) (hos : os.toInt = (o.length : Int)) (hB : Bs of 0 o) (hcp : o.length ≤ cap) (hin : ¬ (0 ≤ y.toInt ∧ y.toInt < (o.length : Int))) : CtrX l E yX3_octet cX3_octet 2 (some .byte) 7 [.ref x, .int y] [(x, .inr (5, [z0, .ref op, z2, z3, z4, z5, z6, z7])), (op, .inr (4, [.ref ob, .int os])), (ob, aB E (cap) (of))] := by
  refine CtrX.intro hl (by decide) (Nat.le_of_ble_eq_true rfl) (fun g hgl hN C r hT hout hQ hA => ?_)
  subst hgl
  change G E g [(x, .inr (5, [z0, .ref op, z2, z3, z4, z5, z6, z7])), (op, .inr (4, [.ref ob, .int os])), (ob, aB E (cap) (of))] 0 0 0 [(0, .ref x), (1, .int y)] []
  refine g_aload_n C dX3_octet_0 0 rfl ?_
  refine gf_X3_19 C 0 rfl rfl dX3_octet_1 ?_
  refine g_iload_n C dX3_octet_4 1 rfl ?_
  refine g_callV C r mv_X3_158 dX3_octet_5 (c_X2_has g.l E op ob os y) (wr := [(x, .inr (5, [z0, .ref op, z2, z3, z4, z5, z6, z7])), (ob, aB E (cap) (of))]) (As := [.int y]) (rest := []) (Spl.at [0, 2] [1] rfl rfl rfl) 0 rfl rfl rfl rfl (Nat.le_of_ble_eq_true rfl) (by decide) (by omega) (by omega) (fun v w h => ?_)
  obtain ⟨x5, rfl, e5, rfl⟩ := h
  change G E g [(x, .inr (5, [z0, .ref op, z2, z3, z4, z5, z6, z7])), (ob, aB E (cap) (of)), (op, .inr (4, [.ref ob, .int os]))] _ _ _ _ [.int x5]
  refine g_if_ne C 21 dX3_octet_8 (by decide) (fun c8 => ?_) (fun c8 => ?_)
  · exfalso; omega
  · replace e5 := bl0 e5 c8
    refine g_perm [0, 2, 1] rfl (ws' := [(x, .inr (5, [z0, .ref op, z2, z3, z4, z5, z6, z7])), (op, .inr (4, [.ref ob, .int os])), (ob, aB E (cap) (of))]) rfl ?_
    exact g_throwS C r (by decide) hl hT hT.2.2.2.2.2.2.2.2 hQ dX3_octet_11 dX3_octet_14 dX3_octet_15 dX3_octet_17 dX3_octet_20 hout (Nat.le_of_ble_eq_true rfl) (fun t h1 h2 => ⟨rfl, h1, by rw [← hA]; exact h2⟩) (by decide) (by decide)
set_option maxHeartbeats 1000000 in
set_option maxRecDepth 10000 in
theorem c_X3_directory (l : Launch) (E : GE) (x ra : Nat) (rf : Nat → Int32) (rc y z : Int32) (R : Nat) (z0 z1 z2 z3 z6 z7 : Value) (hrc : rc.toInt = (R : Int)) (hR : R ≤ 60) (hin : 0 ≤ y.toInt ∧ y.toInt < (R : Int)) : Ctr l E yX3_directory cX3_directory 3 (some .int) 0 (0) (0) [.ref x, .int y, .int z] [(x, .inr (5, [z0, z1, z2, z3, .ref ra, .int rc, z6, z7])), (ra, aI E (180) (rf))] (oI (fun r => (0 ≤ z.toInt ∧ z.toInt ≤ 2 ∧ r = rf (3 * y.toInt.toNat + z.toInt.toNat)) ∨ (¬ (0 ≤ z.toInt ∧ z.toInt ≤ 2) ∧ r.toInt = -1)) [(x, .inr (5, [z0, z1, z2, z3, .ref ra, .int rc, z6, z7])), (ra, aI E (180) (rf))]) := by
  refine Ctr.intro (by decide) (Nat.le_of_ble_eq_true rfl) (fun g hgl hN C r F hi => ?_)
  subst hgl
  change G E g [(x, .inr (5, [z0, z1, z2, z3, .ref ra, .int rc, z6, z7])), (ra, aI E (180) (rf))] 0 0 0 [(0, .ref x), (1, .int y), (2, .int z)] []
  refine g_iload_n C dX3_directory_0 1 rfl ?_
  refine g_if_lt C 12 dX3_directory_1 (by decide) (fun c1 => ?_) (fun c1 => ?_)
  · exfalso; omega
  · refine g_iload_n C dX3_directory_4 1 rfl ?_
    refine g_aload_n C dX3_directory_5 0 rfl ?_
    refine gf_X3_38 C 0 rfl rfl dX3_directory_6 ?_
    refine g_icmp_lt C 22 dX3_directory_9 (by decide) (fun c9 => ?_) (fun c9 => ?_)
    · refine g_iload_n C dX3_directory_22 2 rfl ?_
      refine g_if_lt C 31 dX3_directory_23 (by decide) (fun c23 => ?_) (fun c23 => ?_)
      · refine g_iconst C dX3_directory_31 (by decide) (fun x31 e31 => ?_)
        exact g_iret C F dX3_directory_32 rfl rfl (Nat.le_refl _) (Nat.le_refl _) (by exact ⟨_, rfl, Or.inr ⟨by omega, by omega⟩, rfl⟩)
      · refine g_iload_n C dX3_directory_26 2 rfl ?_
        refine g_iconst C dX3_directory_27 (by decide) (fun x27 e27 => ?_)
        refine g_icmp_lt C 33 dX3_directory_28 (by decide) (fun c28 => ?_) (fun c28 => ?_)
        · refine g_aload_n C dX3_directory_33 0 rfl ?_
          refine gf_X3_34 C 0 rfl rfl dX3_directory_34 ?_
          refine g_iload_n C dX3_directory_37 1 rfl ?_
          refine g_iconst C dX3_directory_38 (by decide) (fun x38 e38 => ?_)
          refine g_imul C dX3_directory_39 (y.toInt * 3) (by rw [e38]) (by omega) (fun x39 e39 => ?_)
          refine g_iload_n C dX3_directory_40 2 rfl ?_
          refine g_iadd C dX3_directory_41 (by omega) (fun x41 e41 => ?_)
          refine g_iaload C 1 rfl dX3_directory_42 (3 * y.toInt.toNat + z.toInt.toNat) (by omega) (by omega) (fun x42 e42 => ?_)
          have t42 := congrArg Int32.toInt e42
          exact g_iret C F dX3_directory_43 rfl rfl (Nat.le_refl _) (Nat.le_refl _) (by exact ⟨_, rfl, Or.inl ⟨by omega, by omega, e42⟩, rfl⟩)
        · refine g_iconst C dX3_directory_31 (by decide) (fun x31 e31 => ?_)
          exact g_iret C F dX3_directory_32 rfl rfl (Nat.le_refl _) (Nat.le_refl _) (by exact ⟨_, rfl, Or.inr ⟨by omega, by omega⟩, rfl⟩)
    · exfalso; omega
set_option maxHeartbeats 1000000 in
set_option maxRecDepth 10000 in
theorem c_X3_directoryX (l : Launch) (hl : l.stackTraces = false) (E : GE) (x ra : Nat) (rf : Nat → Int32) (rc y z : Int32) (R : Nat) (z0 z1 z2 z3 z6 z7 : Value) (hrc : rc.toInt = (R : Int)) (hR : R ≤ 60) (hin : ¬ (0 ≤ y.toInt ∧ y.toInt < (R : Int))) : CtrX l E yX3_directory cX3_directory 3 (some .int) 7 [.ref x, .int y, .int z] [(x, .inr (5, [z0, z1, z2, z3, .ref ra, .int rc, z6, z7])), (ra, aI E (180) (rf))] := by
  refine CtrX.intro hl (by decide) (Nat.le_of_ble_eq_true rfl) (fun g hgl hN C r hT hout hQ hA => ?_)
  subst hgl
  change G E g [(x, .inr (5, [z0, z1, z2, z3, .ref ra, .int rc, z6, z7])), (ra, aI E (180) (rf))] 0 0 0 [(0, .ref x), (1, .int y), (2, .int z)] []
  refine g_iload_n C dX3_directory_0 1 rfl ?_
  refine g_if_lt C 12 dX3_directory_1 (by decide) (fun c1 => ?_) (fun c1 => ?_)
  · exact g_throwS C r (by decide) hl hT hT.2.2.2.2.2.2.2.1 hQ dX3_directory_12 dX3_directory_15 dX3_directory_16 dX3_directory_18 dX3_directory_21 hout (Nat.le_of_ble_eq_true rfl) (fun t h1 h2 => ⟨rfl, h1, by rw [← hA]; exact h2⟩) (by decide) (by decide)
  · refine g_iload_n C dX3_directory_4 1 rfl ?_
    refine g_aload_n C dX3_directory_5 0 rfl ?_
    refine gf_X3_38 C 0 rfl rfl dX3_directory_6 ?_
    refine g_icmp_lt C 22 dX3_directory_9 (by decide) (fun c9 => ?_) (fun c9 => ?_)
    · exfalso; omega
    · exact g_throwS C r (by decide) hl hT hT.2.2.2.2.2.2.2.1 hQ dX3_directory_12 dX3_directory_15 dX3_directory_16 dX3_directory_18 dX3_directory_21 hout (Nat.le_of_ble_eq_true rfl) (fun t h1 h2 => ⟨rfl, h1, by rw [← hA]; exact h2⟩) (by decide) (by decide)
