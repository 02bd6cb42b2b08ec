set_option maxHeartbeats 1000000 in
set_option maxRecDepth 10000 in
theorem c_X3_isFree (l : Launch) (E : GE) (x : Int32)  : Ctr l E yX3_isFree cX3_isFree 3 (some .boolean) 1 (0) (0) [.int x] [] (oI (fun r => (r.toInt = 1 ∧ ((5 ≤ x.toInt ∧ x.toInt ≤ 9) ∨ (17 ≤ x.toInt ∧ x.toInt ≤ 19) ∨ x.toInt = 22 ∨ x.toInt = 23)) ∨ (r.toInt = 0 ∧ ¬ ((5 ≤ x.toInt ∧ x.toInt ≤ 9) ∨ (17 ≤ x.toInt ∧ x.toInt ≤ 19) ∨ x.toInt = 22 ∨ x.toInt = 23))) []) := by
  refine Ctr.intro (by decide) (Nat.le_of_ble_eq_true rfl) (fun g hgl hN C r F hi => ?_)
  subst hgl
  change G E g [] 0 0 0 [(0, .int x)] []
  have J10 : ∀ (b1 : Int32) (hb1 : (b1.toInt = 1 ∧ x.toInt < 5) ∨ (b1.toInt = 0 ∧ 5 ≤ x.toInt)), G E g [] 0 0 10 [(0, .int x)] [.int b1] := by
    intro b1 hb1
    refine g_istore_n C dX3_isFree_10 (by rw [hN]; decide) (lv' := [(1, .int b1), (0, .int x)]) rfl ?_
    have J28 : ∀ (b2 : Int32) (hb2 : (b2.toInt = 1 ∧ 12 ≤ x.toInt ∧ x.toInt < 17) ∨ (b2.toInt = 0 ∧ ¬ (12 ≤ x.toInt ∧ x.toInt < 17))), G E g [] 0 0 28 [(0, .int x), (1, .int b1)] [.int b2] := by
      intro b2 hb2
      refine g_istore_n C dX3_isFree_28 (by rw [hN]; decide) (lv' := [(2, .int b2), (0, .int x), (1, .int b1)]) rfl ?_
      refine g_iload_n C dX3_isFree_29 2 rfl ?_
      refine g_if_ne C 55 dX3_isFree_30 (by decide) (fun c30 => ?_) (fun c30 => ?_)
      · refine g_iconst C dX3_isFree_55 (by decide) (fun x55 e55 => ?_)
        exact g_iret C F dX3_isFree_56 rfl (nz_b x55 (by omega)) (Nat.le_refl _) (Nat.le_refl _) (by exact ⟨_, rfl, by omega, rfl⟩)
      · refine g_iload_n C dX3_isFree_33 0 rfl ?_
        refine g_if_ne C 55 dX3_isFree_34 (by decide) (fun c34 => ?_) (fun c34 => ?_)
        · refine g_iconst C dX3_isFree_55 (by decide) (fun x55 e55 => ?_)
          exact g_iret C F dX3_isFree_56 rfl (nz_b x55 (by omega)) (Nat.le_refl _) (Nat.le_refl _) (by exact ⟨_, rfl, by omega, rfl⟩)
        · refine g_iload_n C dX3_isFree_37 1 rfl ?_
          refine g_bipush C dX3_isFree_38 (by decide) (fun x38 e38 => ?_)
          refine g_icmp_ge C 55 dX3_isFree_40 (by decide) (fun c40 => ?_) (fun c40 => ?_)
          · refine g_iconst C dX3_isFree_55 (by decide) (fun x55 e55 => ?_)
            exact g_iret C F dX3_isFree_56 rfl (nz_b x55 (by omega)) (Nat.le_refl _) (Nat.le_refl _) (by exact ⟨_, rfl, by omega, rfl⟩)
          · refine g_iload_n C dX3_isFree_43 1 rfl ?_
            refine g_callS C r ms_X3_166 dX3_isFree_44 (c_X3_fixedByte g.l E x) (wr := []) (As := [.int x]) (rest := []) (Spl.at [] [] rfl rfl rfl) rfl (Nat.le_of_ble_eq_true rfl) (by decide) (Nat.le_refl _) (Nat.le_refl _) (fun v w h => ?_)
            obtain ⟨x44, rfl, e44, rfl⟩ := h
            change G E g [] _ _ _ _ [.int x44]
            refine g_iconst C dX3_isFree_47 (by decide) (fun x47 e47 => ?_)
            refine g_icmp_ne C 55 dX3_isFree_48 (by decide) (fun c48 => ?_) (fun c48 => ?_)
            · refine g_iconst C dX3_isFree_55 (by decide) (fun x55 e55 => ?_)
              exact g_iret C F dX3_isFree_56 rfl (nz_b x55 (by omega)) (Nat.le_refl _) (Nat.le_refl _) (by exact ⟨_, rfl, by omega, rfl⟩)
            · refine g_iconst C dX3_isFree_51 (by decide) (fun x51 e51 => ?_)
              refine g_goto C 56 dX3_isFree_52 (by decide) ?_
              exact g_iret C F dX3_isFree_56 rfl (nz_b x51 (by omega)) (Nat.le_refl _) (Nat.le_refl _) (by exact ⟨_, rfl, by omega, rfl⟩)
    refine g_iload_n C dX3_isFree_11 1 rfl ?_
    refine g_bipush C dX3_isFree_12 (by decide) (fun x12 e12 => ?_)
    refine g_icmp_lt C 27 dX3_isFree_14 (by decide) (fun c14 => ?_) (fun c14 => ?_)
    · refine g_iconst C dX3_isFree_27 (by decide) (fun x27 e27 => ?_)
      refine g_lv [1, 0] (lv' := [(0, .int x), (1, .int b1)]) rfl ?_
      exact J28 (x27) (by omega)
    · refine g_iload_n C dX3_isFree_17 1 rfl ?_
      refine g_bipush C dX3_isFree_18 (by decide) (fun x18 e18 => ?_)
      refine g_icmp_ge C 27 dX3_isFree_20 (by decide) (fun c20 => ?_) (fun c20 => ?_)
      · refine g_iconst C dX3_isFree_27 (by decide) (fun x27 e27 => ?_)
        refine g_lv [1, 0] (lv' := [(0, .int x), (1, .int b1)]) rfl ?_
        exact J28 (x27) (by omega)
      · refine g_iconst C dX3_isFree_23 (by decide) (fun x23 e23 => ?_)
        refine g_goto C 28 dX3_isFree_24 (by decide) ?_
        refine g_lv [1, 0] (lv' := [(0, .int x), (1, .int b1)]) rfl ?_
        exact J28 (x23) (by omega)
  refine g_iload_n C dX3_isFree_0 0 rfl ?_
  refine g_iconst C dX3_isFree_1 (by decide) (fun x1 e1 => ?_)
  refine g_icmp_ge C 9 dX3_isFree_2 (by decide) (fun c2 => ?_) (fun c2 => ?_)
  · refine g_iconst C dX3_isFree_9 (by decide) (fun x9 e9 => ?_)
    refine g_lv [0] (lv' := [(0, .int x)]) rfl ?_
    exact J10 (x9) (by omega)
  · refine g_iconst C dX3_isFree_5 (by decide) (fun x5 e5 => ?_)
    refine g_goto C 10 dX3_isFree_6 (by decide) ?_
    refine g_lv [0] (lv' := [(0, .int x)]) rfl ?_
    exact J10 (x5) (by omega)
set_option maxHeartbeats 1000000 in
set_option maxRecDepth 10000 in
theorem c_X3_numberedY (l : Launch) (E : GE) (x fa : Nat) (ga : Nat → Option Nat) (fo : Nat → Nat) (fc y : Int32) (z0 z1 z2 z4 z5 z6 : Value) (hga : ∀ j, j < 60 → ga j = some (fo j)) (hfc : 0 ≤ fc.toInt ∧ fc.toInt ≤ 60) (hin : 1 ≤ y.toInt ∧ y.toInt ≤ fc.toInt) : Ctr l E yX3_numbered cX3_numbered 2 (some (.object "ExchangeRecords$Field")) 0 (0) (0) [.ref x, .int y] [(x, .inr (5, [z0, z1, z2, .ref fa, z4, z5, z6, .int fc])), (fa, aF E (60) (ga))] (fun v w => v = some (.ref (fo (y.toInt.toNat - 1))) ∧ w = [(x, .inr (5, [z0, z1, z2, .ref fa, z4, z5, z6, .int fc])), (fa, aF E (60) (ga))]) := by
  refine Ctr.intro (by decide) (Nat.le_of_ble_eq_true rfl) (fun g hgl hN C r F hi => ?_)
  subst hgl
  change G E g [(x, .inr (5, [z0, z1, z2, .ref fa, z4, z5, z6, .int fc])), (fa, aF E (60) (ga))] 0 0 0 [(0, .ref x), (1, .int y)] []
  refine g_iload_n C dX3_numbered_0 1 rfl ?_
  refine g_iconst C dX3_numbered_1 (by decide) (fun x1 e1 => ?_)
  refine g_icmp_lt C 13 dX3_numbered_2 (by decide) (fun c2 => ?_) (fun c2 => ?_)
  · exfalso; omega
  · refine g_iload_n C dX3_numbered_5 1 rfl ?_
    refine g_aload_n C dX3_numbered_6 0 rfl ?_
    refine gf_X3_46 C 0 rfl rfl dX3_numbered_7 ?_
    refine g_icmp_le C 17 dX3_numbered_10 (by decide) (fun c10 => ?_) (fun c10 => ?_)
    · refine g_aload_n C dX3_numbered_17 0 rfl ?_
      refine gf_X3_29 C 0 rfl rfl dX3_numbered_18 ?_
      refine g_iload_n C dX3_numbered_21 1 rfl ?_
      refine g_iconst C dX3_numbered_22 (by decide) (fun x22 e22 => ?_)
      refine g_isub C dX3_numbered_23 (by omega) (fun x23 e23 => ?_)
      refine g_aaload C 1 rfl dX3_numbered_24 (y.toInt.toNat - 1) (by omega) (by omega) (r := (fo (y.toInt.toNat - 1))) (hga _ (by omega)) ?_
      exact g_aret C F dX3_numbered_25 rfl (Or.inl ⟨_, rfl⟩) (Or.inr ⟨_, rfl⟩) (by omega) (by omega) (by exact ⟨rfl, rfl⟩)
    · exfalso; omega
set_option maxHeartbeats 1000000 in
set_option maxRecDepth 10000 in
theorem c_X3_numberedN (l : Launch) (E : GE) (x fa : Nat) (ga : Nat → Option Nat) (fo : Nat → Nat) (fc y : Int32) (z0 z1 z2 z4 z5 z6 : Value) (hga : ∀ j, j < 60 → ga j = some (fo j)) (hfc : 0 ≤ fc.toInt ∧ fc.toInt ≤ 60) (hin : ¬ (1 ≤ y.toInt ∧ y.toInt ≤ fc.toInt)) : Ctr l E yX3_numbered cX3_numbered 2 (some (.object "ExchangeRecords$Field")) 0 (0) (0) [.ref x, .int y] [(x, .inr (5, [z0, z1, z2, .ref fa, z4, z5, z6, .int fc])), (fa, aF E (60) (ga))] (fun v w => v = some .null ∧ w = [(x, .inr (5, [z0, z1, z2, .ref fa, z4, z5, z6, .int fc])), (fa, aF E (60) (ga))]) := by
  refine Ctr.intro (by decide) (Nat.le_of_ble_eq_true rfl) (fun g hgl hN C r F hi => ?_)
  subst hgl
  change G E g [(x, .inr (5, [z0, z1, z2, .ref fa, z4, z5, z6, .int fc])), (fa, aF E (60) (ga))] 0 0 0 [(0, .ref x), (1, .int y)] []
  refine g_iload_n C dX3_numbered_0 1 rfl ?_
  refine g_iconst C dX3_numbered_1 (by decide) (fun x1 e1 => ?_)
  refine g_icmp_lt C 13 dX3_numbered_2 (by decide) (fun c2 => ?_) (fun c2 => ?_)
  · refine g_null C dX3_numbered_13 ?_
    refine g_goto C 25 dX3_numbered_14 (by decide) ?_
    exact g_aret C F dX3_numbered_25 rfl (Or.inl ⟨_, rfl⟩) (Or.inl rfl) (by omega) (by omega) (by exact ⟨rfl, rfl⟩)
  · refine g_iload_n C dX3_numbered_5 1 rfl ?_
    refine g_aload_n C dX3_numbered_6 0 rfl ?_
    refine gf_X3_46 C 0 rfl rfl dX3_numbered_7 ?_
    refine g_icmp_le C 17 dX3_numbered_10 (by decide) (fun c10 => ?_) (fun c10 => ?_)
    · exfalso; omega
    · refine g_null C dX3_numbered_13 ?_
      refine g_goto C 25 dX3_numbered_14 (by decide) ?_
      exact g_aret C F dX3_numbered_25 rfl (Or.inl ⟨_, rfl⟩) (Or.inl rfl) (by omega) (by omega) (by exact ⟨rfl, rfl⟩)
set_option maxHeartbeats 1000000 in
set_option maxRecDepth 10000 in
theorem c_X3_length (l : Launch) (E : GE) (x : Nat) (pr fc : Int32) (z0 z1 z2 z3 z4 z5 : Value)  : Ctr l E yX3_length cX3_length 1 (some .int) 0 (0) (0) [.ref x] [(x, .inr (5, [z0, z1, z2, z3, z4, z5, .int pr, .int fc]))] (oI (fun r => (pr.toInt ≠ 0 ∧ r.toInt = fc.toInt) ∨ (pr.toInt = 0 ∧ r.toInt = -1)) [(x, .inr (5, [z0, z1, z2, z3, z4, z5, .int pr, .int fc]))]) := by
  refine Ctr.intro (by decide) (Nat.le_of_ble_eq_true rfl) (fun g hgl hN C r F hi => ?_)
  subst hgl
  change G E g [(x, .inr (5, [z0, z1, z2, z3, z4, z5, .int pr, .int fc]))] 0 0 0 [(0, .ref x)] []
  refine g_aload_n C dX3_length_0 0 rfl ?_
  refine gf_X3_42 C 0 rfl rfl dX3_length_1 ?_
  refine g_if_eq C 14 dX3_length_4 (by decide) (fun c4 => ?_) (fun c4 => ?_)
  · refine g_iconst C dX3_length_14 (by decide) (fun x14 e14 => ?_)
    exact g_iret C F dX3_length_15 rfl rfl (Nat.le_refl _) (Nat.le_refl _) (by exact ⟨_, rfl, by omega, rfl⟩)
  · refine g_aload_n C dX3_length_7 0 rfl ?_
    refine gf_X3_46 C 0 rfl rfl dX3_length_8 ?_
    refine g_goto C 15 dX3_length_11 (by decide) ?_
    exact g_iret C F dX3_length_15 rfl rfl (Nat.le_refl _) (Nat.le_refl _) (by exact ⟨_, rfl, by omega, rfl⟩)
set_option maxHeartbeats 1000000 in
set_option maxRecDepth 10000 in
theorem c_X3_refuse (l : Launch) (E : GE) (x ip ib : Nat) (f : Nat → Int32) (sz pl : Int32) (S P : Nat) (pr fc y z : Int32) (k : Nat) (z1 z2 z3 z4 z5 : Value) (hS : sz.toInt = (S : Int)) (hP : pl.toInt = (P : Int)) (hPS : P ≤ S) (hSm : S ≤ 1500) (hz : z.toInt = (k : Int)) (hk : k ≤ S - P) (hy : -1 ≤ y.toInt ∧ y.toInt ≤ 100000) : Ctr l E yX3_refuse cX3_refuse 3 (some .int) 1 (0) (0) [.ref x, .int y, .int z] [(x, .inr (5, [.ref ip, z1, z2, z3, z4, z5, .int pr, .int fc])), (ip, .inr (3, [.ref ib, .int sz, .int pl])), (ib, aB E (1500) (f))] (fun v w => ∃ (r p pr2 fc2 : Int32), v = some (.int r) ∧ r.toInt = -1 - y.toInt ∧ p.toInt = ((P + k : Nat) : Int) ∧ pr2.toInt = 0 ∧ fc2.toInt = 0 ∧ w = [(x, .inr (5, [.ref ip, z1, z2, z3, z4, z5, .int pr2, .int fc2])), (ip, .inr (3, [.ref ib, .int sz, .int p])), (ib, aB E (1500) (f))]) := by
  refine Ctr.intro (by decide) (Nat.le_of_ble_eq_true rfl) (fun g hgl hN C r F hi => ?_)
  subst hgl
  change G E g [(x, .inr (5, [.ref ip, z1, z2, z3, z4, z5, .int pr, .int fc])), (ip, .inr (3, [.ref ib, .int sz, .int pl])), (ib, aB E (1500) (f))] 0 0 0 [(0, .ref x), (1, .int y), (2, .int z)] []
  refine g_aload_n C dX3_refuse_0 0 rfl ?_
  refine g_iconst C dX3_refuse_1 (by decide) (fun x1 e1 => ?_)
  refine gp_X3_42 C 0 rfl (Nat.le_of_ble_eq_true rfl) (nz_b x1 (by omega)) (fz_b x1 (by omega)) dX3_refuse_2 ?_
  change G E g [(x, .inr (5, [.ref ip, z1, z2, z3, z4, z5, .int x1, .int fc])), (ip, .inr (3, [.ref ib, .int sz, .int pl])), (ib, aB E (1500) (f))] _ _ _ _ _
  refine g_aload_n C dX3_refuse_5 0 rfl ?_
  refine g_iconst C dX3_refuse_6 (by decide) (fun x6 e6 => ?_)
  refine gp_X3_46 C 0 rfl (Nat.le_of_ble_eq_true rfl) rfl rfl dX3_refuse_7 ?_
  change G E g [(x, .inr (5, [.ref ip, z1, z2, z3, z4, z5, .int x1, .int x6])), (ip, .inr (3, [.ref ib, .int sz, .int pl])), (ib, aB E (1500) (f))] _ _ _ _ _
  refine g_aload_n C dX3_refuse_10 0 rfl ?_
  refine gf_X3_10 C 0 rfl rfl dX3_refuse_11 ?_
  refine g_iload_n C dX3_refuse_14 2 rfl ?_
  refine g_callV C r mv_X3_74 dX3_refuse_15 (c_X1_skip g.l E ip ib f sz pl S P z k hS hP hPS hSm (by omega) (by omega)) (wr := [(x, .inr (5, [.ref ip, z1, z2, z3, z4, z5, .int x1, .int x6]))]) (As := [.int z]) (rest := []) (Spl.at [0] [1, 2] rfl rfl rfl) 0 rfl rfl rfl rfl (Nat.le_of_ble_eq_true rfl) (by decide) (Nat.le_refl _) (Nat.le_refl _) (fun v w h => ?_)
  obtain ⟨rfl, p15, ep15, rfl⟩ := h
  change G E g [(x, .inr (5, [.ref ip, z1, z2, z3, z4, z5, .int x1, .int x6])), (ip, .inr (3, [.ref ib, .int sz, .int p15])), (ib, aB E (1500) (f))] _ _ _ _ []
  refine g_iconst C dX3_refuse_18 (by decide) (fun x18 e18 => ?_)
  refine g_iload_n C dX3_refuse_19 1 rfl ?_
  refine g_isub C dX3_refuse_20 (by omega) (fun x20 e20 => ?_)
  exact g_iret C F dX3_refuse_21 rfl rfl (Nat.le_refl _) (Nat.le_refl _) (by exact ⟨_, _, _, _, rfl, by omega, ep15, by omega, by omega, rfl⟩)
set_option maxHeartbeats 1000000 in
set_option maxRecDepth 10000 in
theorem c_X3_add (l : Launch) (E : GE) (x ip ib : Nat) (f : Nat → Int32) (sz pl : Int32) (S P : Nat) (y : Int32) (z1 z2 z3 z4 z5 z6 z7 : Value) (hS : sz.toInt = (S : Int)) (hP : pl.toInt = (P : Int)) (hPS : P ≤ S) (hSm : S ≤ 1500) : Ctr l E yX3_add cX3_add 2 none 1 (0) (0) [.ref x, .int y] [(x, .inr (5, [.ref ip, z1, z2, z3, z4, z5, z6, z7])), (ip, .inr (3, [.ref ib, .int sz, .int pl])), (ib, aB E (1500) (f))] (fun v w => v = none ∧ ∃ (s : Int32) (f2 : Nat → Int32), ((S < 1500 ∧ s.toInt = ((S + 1 : Nat) : Int) ∧ f2 = upd f S (sB (u8 y))) ∨ (¬ S < 1500 ∧ s = sz ∧ f2 = f)) ∧ w = [(x, .inr (5, [.ref ip, z1, z2, z3, z4, z5, z6, z7])), (ip, .inr (3, [.ref ib, .int s, .int pl])), (ib, aB E (1500) (f2))]) := by
  refine Ctr.intro (by decide) (Nat.le_of_ble_eq_true rfl) (fun g hgl hN C r F hi => ?_)
  subst hgl
  change G E g [(x, .inr (5, [.ref ip, z1, z2, z3, z4, z5, z6, z7])), (ip, .inr (3, [.ref ib, .int sz, .int pl])), (ib, aB E (1500) (f))] 0 0 0 [(0, .ref x), (1, .int y)] []
  refine g_aload_n C dX3_add_0 0 rfl ?_
  refine gf_X3_10 C 0 rfl rfl dX3_add_1 ?_
  refine g_iload_n C dX3_add_4 1 rfl ?_
  refine g_callV C r mv_X3_49 dX3_add_5 (c_X1_append g.l E ip ib f sz pl S P y hS hP hPS hSm) (wr := [(x, .inr (5, [.ref ip, z1, z2, z3, z4, z5, z6, z7]))]) (As := [.int y]) (rest := []) (Spl.at [0] [1, 2] rfl rfl rfl) 0 rfl rfl rfl rfl (Nat.le_of_ble_eq_true rfl) (by decide) (Nat.le_refl _) (Nat.le_refl _) (fun v w h => ?_)
  obtain ⟨rfl, s5, f5, e5, rfl⟩ := h
  change G E g [(x, .inr (5, [.ref ip, z1, z2, z3, z4, z5, z6, z7])), (ip, .inr (3, [.ref ib, .int s5, .int pl])), (ib, aB E (1500) (f5))] _ _ _ _ []
  exact g_vret C F dX3_add_8 (Nat.le_refl _) (Nat.le_refl _) (by exact ⟨rfl, _, _, e5, rfl⟩)
set_option maxHeartbeats 1000000 in
set_option maxRecDepth 10000 in
theorem c_X3_leader (l : Launch) (E : GE) (x lb : Nat) (lf : Nat → Int32) (pr fc y z : Int32) (z0 z1 z3 z4 z5 : Value) (hpr : pr.toInt = 0 ∨ pr.toInt = 1) : Ctr l E yX3_leader cX3_leader 3 (some .boolean) 2 (0) (0) [.ref x, .int y, .int z] [(x, .inr (5, [z0, z1, .ref lb, z3, z4, z5, .int pr, .int fc])), (lb, aB E (24) (lf))] (fun v w => ∃ (r pr2 fc2 : Int32) (lf2 : Nat → Int32), v = some (.int r) ∧ ((((5 ≤ y.toInt ∧ y.toInt ≤ 9) ∨ (17 ≤ y.toInt ∧ y.toInt ≤ 19) ∨ y.toInt = 22 ∨ y.toInt = 23) ∧ r.toInt = 1 ∧ pr2.toInt = 1 ∧ ((pr.toInt ≠ 0 ∧ fc2 = fc ∧ lf2 = upd lf y.toInt.toNat (sB (u8 z))) ∨ (pr.toInt = 0 ∧ fc2.toInt = 0 ∧ lf2 = upd (fun j => if j < 24 then sB 32 else lf j) y.toInt.toNat (sB (u8 z))))) ∨ (¬ ((5 ≤ y.toInt ∧ y.toInt ≤ 9) ∨ (17 ≤ y.toInt ∧ y.toInt ≤ 19) ∨ y.toInt = 22 ∨ y.toInt = 23) ∧ r.toInt = 0 ∧ pr2 = pr ∧ fc2 = fc ∧ lf2 = lf)) ∧ w = [(x, .inr (5, [z0, z1, .ref lb, z3, z4, z5, .int pr2, .int fc2])), (lb, aB E (24) (lf2))]) := by
  refine Ctr.intro (by decide) (Nat.le_of_ble_eq_true rfl) (fun g hgl hN C r F hi => ?_)
  subst hgl
  change G E g [(x, .inr (5, [z0, z1, .ref lb, z3, z4, z5, .int pr, .int fc])), (lb, aB E (24) (lf))] 0 0 0 [(0, .ref x), (1, .int y), (2, .int z)] []
  refine g_iload_n C dX3_leader_0 1 rfl ?_
  refine g_callS C r ms_X3_111 dX3_leader_1 (c_X3_isFree g.l E y) (wr := [(x, .inr (5, [z0, z1, .ref lb, z3, z4, z5, .int pr, .int fc])), (lb, aB E (24) (lf))]) (As := [.int y]) (rest := []) (Spl.at [0, 1] [] rfl rfl rfl) rfl (Nat.le_of_ble_eq_true rfl) (by decide) (Nat.le_refl _) (Nat.le_refl _) (fun v w h => ?_)
  obtain ⟨x1, rfl, e1, rfl⟩ := h
  change G E g [(x, .inr (5, [z0, z1, .ref lb, z3, z4, z5, .int pr, .int fc])), (lb, aB E (24) (lf))] _ _ _ _ [.int x1]
  refine g_if_ne C 9 dX3_leader_4 (by decide) (fun c4 => ?_) (fun c4 => ?_)
  · replace e1 := bl1 e1 c4
    refine g_aload_n C dX3_leader_9 0 rfl ?_
    refine gf_X3_42 C 0 rfl rfl dX3_leader_10 ?_
    refine g_if_ne C 35 dX3_leader_13 (by decide) (fun c13 => ?_) (fun c13 => ?_)
    · refine g_aload_n C dX3_leader_35 0 rfl ?_
      refine gf_X3_23 C 0 rfl rfl dX3_leader_36 ?_
      refine g_iload_n C dX3_leader_39 1 rfl ?_
      refine g_iload_n C dX3_leader_40 2 rfl ?_
      refine g_i2b C dX3_leader_41 (fun x41 e41 => ?_)
      refine g_bastore C 1 rfl dX3_leader_42 (y.toInt.toNat) (by omega) (by omega) ?_
      change G E g [(x, .inr (5, [z0, z1, .ref lb, z3, z4, z5, .int pr, .int fc])), (lb, aB E (24) (upd (lf) (y.toInt.toNat) (sB (u8 x41))))] _ _ _ _ _
      refine g_iconst C dX3_leader_43 (by decide) (fun x43 e43 => ?_)
      exact g_iret C F dX3_leader_44 rfl (nz_b x43 (by omega)) (Nat.le_refl _) (Nat.le_refl _) (by exact ⟨_, _, _, _, rfl, Or.inl ⟨e1, by omega, by omega, Or.inl ⟨by omega, rfl, by rw [e41, sB_u8_sB]⟩⟩, rfl⟩)
    · refine g_aload_n C dX3_leader_16 0 rfl ?_
      refine g_iconst C dX3_leader_17 (by decide) (fun x17 e17 => ?_)
      refine gp_X3_42 C 0 rfl (Nat.le_of_ble_eq_true rfl) (nz_b x17 (by omega)) (fz_b x17 (by omega)) dX3_leader_18 ?_
      change G E g [(x, .inr (5, [z0, z1, .ref lb, z3, z4, z5, .int x17, .int fc])), (lb, aB E (24) (lf))] _ _ _ _ _
      refine g_aload_n C dX3_leader_21 0 rfl ?_
      refine g_iconst C dX3_leader_22 (by decide) (fun x22 e22 => ?_)
      refine gp_X3_46 C 0 rfl (Nat.le_of_ble_eq_true rfl) rfl rfl dX3_leader_23 ?_
      change G E g [(x, .inr (5, [z0, z1, .ref lb, z3, z4, z5, .int x17, .int x22])), (lb, aB E (24) (lf))] _ _ _ _ _
      refine g_aload_n C dX3_leader_26 0 rfl ?_
      refine gf_X3_23 C 0 rfl rfl dX3_leader_27 ?_
      refine g_bipush C dX3_leader_30 (by decide) (fun x30 e30 => ?_)
      refine g_callS C r ms_X3_114 dX3_leader_32 (c_J7_fill g.l E lb 24 lf x30 (by omega)) (wr := [(x, .inr (5, [z0, z1, .ref lb, z3, z4, z5, .int x17, .int x22]))]) (As := [.ref lb, .int x30]) (rest := []) (Spl.at [0] [1] rfl rfl rfl) rfl (Nat.le_of_ble_eq_true rfl) (by decide) (Nat.le_refl _) (Nat.le_refl _) (fun v w h => ?_)
      obtain ⟨rfl, rfl⟩ := h
      change G E g [(x, .inr (5, [z0, z1, .ref lb, z3, z4, z5, .int x17, .int x22])), (lb, aB E (24) (fun j => if j < 24 then sB (u8 x30) else lf j))] _ _ _ _ []
      refine g_aload_n C dX3_leader_35 0 rfl ?_
      refine gf_X3_23 C 0 rfl rfl dX3_leader_36 ?_
      refine g_iload_n C dX3_leader_39 1 rfl ?_
      refine g_iload_n C dX3_leader_40 2 rfl ?_
      refine g_i2b C dX3_leader_41 (fun x41 e41 => ?_)
      refine g_bastore C 1 rfl dX3_leader_42 (y.toInt.toNat) (by omega) (by omega) ?_
      change G E g [(x, .inr (5, [z0, z1, .ref lb, z3, z4, z5, .int x17, .int x22])), (lb, aB E (24) (upd (fun j => if j < 24 then sB (u8 x30) else lf j) (y.toInt.toNat) (sB (u8 x41))))] _ _ _ _ _
      refine g_iconst C dX3_leader_43 (by decide) (fun x43 e43 => ?_)
      exact g_iret C F dX3_leader_44 rfl (nz_b x43 (by omega)) (Nat.le_refl _) (Nat.le_refl _) (by exact ⟨_, _, _, _, rfl, Or.inl ⟨e1, by omega, by omega, Or.inr ⟨by omega, by omega, by rw [e41, sB_u8_sB, u8_of (n := 32) e30 (by omega)]⟩⟩, rfl⟩)
  · replace e1 := bl0 e1 c4
    refine g_iconst C dX3_leader_7 (by decide) (fun x7 e7 => ?_)
    exact g_iret C F dX3_leader_8 rfl (nz_b x7 (by omega)) (Nat.le_refl _) (Nat.le_refl _) (by exact ⟨_, _, _, _, rfl, Or.inr ⟨e1, by omega, rfl, rfl, rfl⟩, rfl⟩)
