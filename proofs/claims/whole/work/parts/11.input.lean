set_option maxHeartbeats 1000000 in
set_option maxRecDepth 10000 in
theorem c_X3_isMark (l : Launch) (E : GE) (x : Int32)  : Ctr l E yX3_isMark cX3_isMark 1 (some .boolean) 0 (0) (0) [.int x] [] (oI (fun r => (r.toInt = 1 ∧ 29 ≤ x.toInt ∧ x.toInt ≤ 31) ∨ (r.toInt = 0 ∧ ¬ (29 ≤ x.toInt ∧ x.toInt ≤ 31))) []) := by
  refine Ctr.intro (by decide) (Nat.le_of_ble_eq_true rfl) (fun g hgl hN C r F hi => ?_)
  subst hgl
  change G E g [] 0 0 0 [(0, .int x)] []
  refine g_iload_n C dX3_isMark_0 0 rfl ?_
  refine g_bipush C dX3_isMark_1 (by decide) (fun x1 e1 => ?_)
  refine g_icmp_lt C 16 dX3_isMark_3 (by decide) (fun c3 => ?_) (fun c3 => ?_)
  · refine g_iconst C dX3_isMark_16 (by decide) (fun x16 e16 => ?_)
    exact g_iret C F dX3_isMark_17 rfl (nz_b x16 (by omega)) (by omega) (by omega) (by exact ⟨_, rfl, by omega, rfl⟩)
  · refine g_iload_n C dX3_isMark_6 0 rfl ?_
    refine g_bipush C dX3_isMark_7 (by decide) (fun x7 e7 => ?_)
    refine g_icmp_gt C 16 dX3_isMark_9 (by decide) (fun c9 => ?_) (fun c9 => ?_)
    · refine g_iconst C dX3_isMark_16 (by decide) (fun x16 e16 => ?_)
      exact g_iret C F dX3_isMark_17 rfl (nz_b x16 (by omega)) (by omega) (by omega) (by exact ⟨_, rfl, by omega, rfl⟩)
    · refine g_iconst C dX3_isMark_12 (by decide) (fun x12 e12 => ?_)
      refine g_goto C 17 dX3_isMark_13 (by decide) ?_
      exact g_iret C F dX3_isMark_17 rfl (nz_b x12 (by omega)) (by omega) (by omega) (by exact ⟨_, rfl, by omega, rfl⟩)
set_option maxHeartbeats 1000000 in
set_option maxRecDepth 10000 in
theorem c_X3_isDigit (l : Launch) (E : GE) (x : Int32)  : Ctr l E yX3_isDigit cX3_isDigit 1 (some .boolean) 0 (0) (0) [.int x] [] (oI (fun r => (r.toInt = 1 ∧ 48 ≤ x.toInt ∧ x.toInt ≤ 57) ∨ (r.toInt = 0 ∧ ¬ (48 ≤ x.toInt ∧ x.toInt ≤ 57))) []) := by
  refine Ctr.intro (by decide) (Nat.le_of_ble_eq_true rfl) (fun g hgl hN C r F hi => ?_)
  subst hgl
  change G E g [] 0 0 0 [(0, .int x)] []
  refine g_iload_n C dX3_isDigit_0 0 rfl ?_
  refine g_bipush C dX3_isDigit_1 (by decide) (fun x1 e1 => ?_)
  refine g_icmp_lt C 16 dX3_isDigit_3 (by decide) (fun c3 => ?_) (fun c3 => ?_)
  · refine g_iconst C dX3_isDigit_16 (by decide) (fun x16 e16 => ?_)
    exact g_iret C F dX3_isDigit_17 rfl (nz_b x16 (by omega)) (by omega) (by omega) (by exact ⟨_, rfl, by omega, rfl⟩)
  · refine g_iload_n C dX3_isDigit_6 0 rfl ?_
    refine g_bipush C dX3_isDigit_7 (by decide) (fun x7 e7 => ?_)
    refine g_icmp_gt C 16 dX3_isDigit_9 (by decide) (fun c9 => ?_) (fun c9 => ?_)
    · refine g_iconst C dX3_isDigit_16 (by decide) (fun x16 e16 => ?_)
      exact g_iret C F dX3_isDigit_17 rfl (nz_b x16 (by omega)) (by omega) (by omega) (by exact ⟨_, rfl, by omega, rfl⟩)
    · refine g_iconst C dX3_isDigit_12 (by decide) (fun x12 e12 => ?_)
      refine g_goto C 17 dX3_isDigit_13 (by decide) ?_
      exact g_iret C F dX3_isDigit_17 rfl (nz_b x12 (by omega)) (by omega) (by omega) (by exact ⟨_, rfl, by omega, rfl⟩)
set_option maxHeartbeats 1000000 in
set_option maxRecDepth 10000 in
theorem c_X3_isControl (l : Launch) (E : GE) (x : Int32)  : Ctr l E yX3_isControl cX3_isControl 1 (some .boolean) 0 (0) (0) [.int x] [] (oI (fun r => (r.toInt = 1 ∧ x.toInt ≤ 9) ∨ (r.toInt = 0 ∧ 9 < x.toInt)) []) := by
  refine Ctr.intro (by decide) (Nat.le_of_ble_eq_true rfl) (fun g hgl hN C r F hi => ?_)
  subst hgl
  change G E g [] 0 0 0 [(0, .int x)] []
  refine g_iload_n C dX3_isControl_0 0 rfl ?_
  refine g_bipush C dX3_isControl_1 (by decide) (fun x1 e1 => ?_)
  refine g_icmp_gt C 10 dX3_isControl_3 (by decide) (fun c3 => ?_) (fun c3 => ?_)
  · refine g_iconst C dX3_isControl_10 (by decide) (fun x10 e10 => ?_)
    exact g_iret C F dX3_isControl_11 rfl (nz_b x10 (by omega)) (by omega) (by omega) (by exact ⟨_, rfl, by omega, rfl⟩)
  · refine g_iconst C dX3_isControl_6 (by decide) (fun x6 e6 => ?_)
    refine g_goto C 11 dX3_isControl_7 (by decide) ?_
    exact g_iret C F dX3_isControl_11 rfl (nz_b x6 (by omega)) (by omega) (by omega) (by exact ⟨_, rfl, by omega, rfl⟩)
set_option maxHeartbeats 1000000 in
theorem c_X3_fixedByte (l : Launch) (E : GE) (x : Int32) : Ctr l E yX3_fixedByte cX3_fixedByte 1 (some .int) 0 (0) (0) [.int x] [] (oI (fun r => ((x.toInt = 10 ∨ x.toInt = 11) ∧ r.toInt = 50) ∨ (x.toInt = 20 ∧ r.toInt = 52) ∨ (x.toInt = 21 ∧ r.toInt = 53) ∨ (¬ (x.toInt = 10 ∨ x.toInt = 11 ∨ x.toInt = 20 ∨ x.toInt = 21) ∧ r.toInt = -1)) []) := by
  refine Ctr.intro (by decide) (Nat.le_of_ble_eq_true rfl) (fun g hgl hN C r F hi => ?_)
  subst hgl
  change G E g [] 0 0 0 [(0, .int x)] []
  refine g_iload_n C dX3_fixedByte_0 0 rfl ?_
  by_cases h10 : x.toInt = 10
  · refine g_lookup C 44 dX3_fixedByte_1 (by decide) (off := 43) (by rw [h10]; rfl) (by decide) ?_
    refine g_bipush C dX3_fixedByte_44 (by decide) (fun x44 e44 => ?_)
    exact g_iret C F dX3_fixedByte_46 rfl rfl (by omega) (by omega) ⟨_, rfl, by omega, rfl⟩
  by_cases h11 : x.toInt = 11
  · refine g_lookup C 44 dX3_fixedByte_1 (by decide) (off := 43) (by rw [h11]; rfl) (by decide) ?_
    refine g_bipush C dX3_fixedByte_44 (by decide) (fun x44 e44 => ?_)
    exact g_iret C F dX3_fixedByte_46 rfl rfl (by omega) (by omega) ⟨_, rfl, by omega, rfl⟩
  by_cases h20 : x.toInt = 20
  · refine g_lookup C 47 dX3_fixedByte_1 (by decide) (off := 46) (by rw [h20]; rfl) (by decide) ?_
    refine g_bipush C dX3_fixedByte_47 (by decide) (fun x44 e44 => ?_)
    exact g_iret C F dX3_fixedByte_49 rfl rfl (by omega) (by omega) ⟨_, rfl, by omega, rfl⟩
  by_cases h21 : x.toInt = 21
  · refine g_lookup C 50 dX3_fixedByte_1 (by decide) (off := 49) (by rw [h21]; rfl) (by decide) ?_
    refine g_bipush C dX3_fixedByte_50 (by decide) (fun x44 e44 => ?_)
    exact g_iret C F dX3_fixedByte_52 rfl rfl (by omega) (by omega) ⟨_, rfl, by omega, rfl⟩
  refine g_lookup C 53 dX3_fixedByte_1 (by decide) (off := 52) (by simp [Op.lookupswitch.offset, h10, h11, h20, h21, Ne.symm h10, Ne.symm h11, Ne.symm h20, Ne.symm h21]) (by decide) ?_
  refine g_iconst C dX3_fixedByte_53 (by decide) (fun x44 e44 => ?_)
  exact g_iret C F dX3_fixedByte_54 rfl rfl (by omega) (by omega) ⟨_, rfl, by omega, rfl⟩
set_option maxHeartbeats 1000000 in
set_option maxRecDepth 10000 in
theorem c_X1_left (l : Launch) (E : GE) (h b : Nat) (f : Nat → Int32) (sz pl : Int32) (S P : Nat)  (hS : sz.toInt = (S : Int)) (hP : pl.toInt = (P : Int)) (hPS : P ≤ S) (hSm : S ≤ 1500) : Ctr l E yX1_left cX1_left 1 (some .int) 0 (0) (0) [.ref h] [(h, .inr (3, [.ref b, .int sz, .int pl])), (b, aB E (1500) (f))] (oI (fun r => r.toInt = ((S - P : Nat) : Int)) [(h, .inr (3, [.ref b, .int sz, .int pl])), (b, aB E (1500) (f))]) := by
  refine Ctr.intro (by decide) (Nat.le_of_ble_eq_true rfl) (fun g hgl hN C r F hi => ?_)
  subst hgl
  have hb8 := lk_lt f P
  change G E g [(h, .inr (3, [.ref b, .int sz, .int pl])), (b, aB E (1500) (f))] 0 0 0 [(0, .ref h)] []
  refine g_aload_n C dX1_left_0 0 rfl ?_
  refine gf_X1_15 C 0 rfl rfl dX1_left_1 ?_
  refine g_aload_n C dX1_left_4 0 rfl ?_
  refine gf_X1_19 C 0 rfl rfl dX1_left_5 ?_
  refine g_isub C dX1_left_8 (by omega) (fun x8 e8 => ?_)
  exact g_iret C F dX1_left_9 rfl rfl (by omega) (by omega) (by exact ⟨_, rfl, by omega, rfl⟩)
set_option maxHeartbeats 1000000 in
set_option maxRecDepth 10000 in
theorem c_X1_at (l : Launch) (E : GE) (h b : Nat) (f : Nat → Int32) (sz pl : Int32) (S P : Nat) (p : Int32) (hS : sz.toInt = (S : Int)) (hP : pl.toInt = (P : Int)) (hPS : P ≤ S) (hSm : S ≤ 1500) : Ctr l E yX1_at cX1_at 2 (some .int) 0 (0) (0) [.ref h, .int p] [(h, .inr (3, [.ref b, .int sz, .int pl])), (b, aB E (1500) (f))] (oI (fun r => (0 ≤ p.toInt ∧ p.toInt < sz.toInt - pl.toInt ∧ r.toInt = (lk f P p.toInt.toNat : Int)) ∨ (¬ (0 ≤ p.toInt ∧ p.toInt < sz.toInt - pl.toInt) ∧ r.toInt = -1)) [(h, .inr (3, [.ref b, .int sz, .int pl])), (b, aB E (1500) (f))]) := by
  refine Ctr.intro (by decide) (Nat.le_of_ble_eq_true rfl) (fun g hgl hN C r F hi => ?_)
  subst hgl
  change G E g [(h, .inr (3, [.ref b, .int sz, .int pl])), (b, aB E (1500) (f))] 0 0 0 [(0, .ref h), (1, .int p)] []
  refine g_iload_n C dX1_at_0 1 rfl ?_
  refine g_if_lt C 17 dX1_at_1 (by decide) (fun c1 => ?_) (fun c1 => ?_)
  · refine g_iconst C dX1_at_17 (by decide) (fun x17 e17 => ?_)
    refine g_goto C 36 dX1_at_18 (by decide) ?_
    exact g_iret C F dX1_at_36 rfl rfl (by omega) (by omega) (by first | exact ⟨_, rfl, by omega, rfl⟩ | exact ⟨_, rfl, Or.inl ⟨by omega, by omega, by rw [e35, e31]; rfl⟩, rfl⟩)
  · refine g_iload_n C dX1_at_4 1 rfl ?_
    refine g_aload_n C dX1_at_5 0 rfl ?_
    refine gf_X1_15 C 0 rfl rfl dX1_at_6 ?_
    refine g_aload_n C dX1_at_9 0 rfl ?_
    refine gf_X1_19 C 0 rfl rfl dX1_at_10 ?_
    refine g_isub C dX1_at_13 (by omega) (fun x13 e13 => ?_)
    refine g_icmp_lt C 21 dX1_at_14 (by decide) (fun c14 => ?_) (fun c14 => ?_)
    · refine g_aload_n C dX1_at_21 0 rfl ?_
      refine gf_X1_9 C 0 rfl rfl dX1_at_22 ?_
      refine g_aload_n C dX1_at_25 0 rfl ?_
      refine gf_X1_19 C 0 rfl rfl dX1_at_26 ?_
      refine g_iload_n C dX1_at_29 1 rfl ?_
      refine g_iadd C dX1_at_30 (by omega) (fun x30 e30 => ?_)
      refine g_baload C 1 rfl dX1_at_31 (P + p.toInt.toNat) (by omega) (by omega) (fun x31 e31 => ?_)
      refine g_sipush C dX1_at_32 (by decide) (fun x32 e32 => ?_)
      refine g_iand255 C dX1_at_35 e32 (fun x35 e35 l35 => ?_)
      exact g_iret C F dX1_at_36 rfl rfl (by omega) (by omega) (by first | exact ⟨_, rfl, by omega, rfl⟩ | exact ⟨_, rfl, Or.inl ⟨by omega, by omega, by rw [e35, e31]; rfl⟩, rfl⟩)
    · refine g_iconst C dX1_at_17 (by decide) (fun x17 e17 => ?_)
      refine g_goto C 36 dX1_at_18 (by decide) ?_
      exact g_iret C F dX1_at_36 rfl rfl (by omega) (by omega) (by first | exact ⟨_, rfl, by omega, rfl⟩ | exact ⟨_, rfl, Or.inl ⟨by omega, by omega, by rw [e35, e31]; rfl⟩, rfl⟩)
theorem c_X1_at' (l : Launch) (E : GE) (h b : Nat) (f : Nat → Int32) (sz pl : Int32) (S P : Nat) (p : Int32) (k : Nat) (hS : sz.toInt = (S : Int)) (hP : pl.toInt = (P : Int)) (hPS : P ≤ S) (hSm : S ≤ 1500) (hk : p.toInt = (k : Int)) (hl : k < S - P) : Ctr l E yX1_at cX1_at 2 (some .int) 0 (0) (0) [.ref h, .int p] [(h, .inr (3, [.ref b, .int sz, .int pl])), (b, aB E (1500) (f))] (oI (fun r => r.toInt = (lk f P k : Int)) [(h, .inr (3, [.ref b, .int sz, .int pl])), (b, aB E (1500) (f))]) :=
  fun s => Met.post (c_X1_at l E h b f sz pl S P p hS hP hPS hSm s) (by
    rintro v w ⟨r, rfl, hr, rfl⟩
    refine ⟨r, rfl, ?_, rfl⟩
    have : p.toInt.toNat = k := by omega
    rw [this] at hr
    omega)
set_option maxHeartbeats 1000000 in
set_option maxRecDepth 10000 in
theorem c_X1_number (l : Launch) (E : GE) (h b : Nat) (f : Nat → Int32) (sz pl : Int32) (S P : Nat) (x y : Int32) (fr dg : Nat) (hS : sz.toInt = (S : Int)) (hP : pl.toInt = (P : Int)) (hPS : P ≤ S) (hSm : S ≤ 1500) (hx : x.toInt = (fr : Int)) (hy : y.toInt = (dg : Int)) (hd : dg ≤ 5) (hl : fr + dg ≤ S - P) : Ctr l E yX1_number cX1_number 5 (some .int) 1 (0) (0) [.ref h, .int x, .int y] [(h, .inr (3, [.ref b, .int sz, .int pl])), (b, aB E (1500) (f))] (oI (fun r => r.toInt = numI (lk f P) fr dg) [(h, .inr (3, [.ref b, .int sz, .int pl])), (b, aB E (1500) (f))]) := by
  refine Ctr.intro (by decide) (Nat.le_of_ble_eq_true rfl) (fun g hgl hN C r F hi => ?_)
  subst hgl
  have hb8 := lk_lt f P
  change G E g [(h, .inr (3, [.ref b, .int sz, .int pl])), (b, aB E (1500) (f))] 0 0 0 [(0, .ref h), (1, .int x), (2, .int y)] []
  refine g_iconst C dX1_number_0 (by decide) (fun x0 e0 => ?_)
  refine g_istore_n C dX1_number_1 (by omega) (lv' := [(3, .int x0), (0, .ref h), (1, .int x), (2, .int y)]) rfl ?_
  refine g_iload_n C dX1_number_2 2 rfl ?_
  refine g_istore C dX1_number_3 (by omega) (lv' := [(4, .int x), (3, .int x0), (0, .ref h), (1, .int x), (2, .int y)]) rfl ?_
  have loop5 : ∀ (n : Nat) (n4 : Int32) (n3 : Int32) (k : Nat) (hm : dg - k < n) (hk : k ≤ dg) (hp : n4.toInt = ((fr + k : Nat) : Int)) (hn : n3.toInt = numI (lk f P) fr k), G E g [(h, .inr (3, [.ref b, .int sz, .int pl])), (b, aB E (1500) (f))] 0 0 5 [(0, .ref h), (1, .int x), (2, .int y), (3, .int n3), (4, .int n4)] [] := by
    intro n
    induction n with
    | zero => intro n4 n3 k hm hk hp hn; omega
    | succ n ih5 =>
      intro n4 n3 k hm hk hp hn
      have hb := numI_bd hb8 fr k (by omega)
      refine g_iload C dX1_number_5 4 rfl ?_
      refine g_iload_n C dX1_number_7 1 rfl ?_
      refine g_iload_n C dX1_number_8 2 rfl ?_
      refine g_iadd C dX1_number_9 (by omega) (fun x9 e9 => ?_)
      refine g_icmp_ge C 34 dX1_number_10 (by decide) (fun c10 => ?_) (fun c10 => ?_)
      · refine g_iload_n C dX1_number_34 3 rfl ?_
        exact g_iret C F dX1_number_35 rfl rfl (by omega) (by omega) (by refine ⟨_, rfl, ?_, rfl⟩; show n3.toInt = _; rw [hn, show k = dg by omega])
      · refine g_iload_n C dX1_number_13 3 rfl ?_
        refine g_bipush C dX1_number_14 (by decide) (fun x14 e14 => ?_)
        refine g_imul C dX1_number_16 (n3.toInt * 10) (by rw [e14]) (by omega) (fun x16 e16 => ?_)
        refine g_aload_n C dX1_number_17 0 rfl ?_
        refine g_iload C dX1_number_18 4 rfl ?_
        refine g_callV C r mv_X1_22 dX1_number_20 (c_X1_at' g.l E h b f sz pl S P n4 (fr + k) hS hP hPS hSm (by omega) (by omega)) (wr := []) (As := [.int n4]) (rest := [.int x16]) (Spl.at [] [0, 1] rfl rfl rfl) 0 rfl rfl rfl rfl (Nat.le_of_ble_eq_true rfl) (by decide) (by omega) (by omega) (fun v w h => ?_)
        obtain ⟨x20, rfl, e20, rfl⟩ := h
        change G E g [(h, .inr (3, [.ref b, .int sz, .int pl])), (b, aB E (1500) (f))] _ _ _ _ [.int x20, .int x16]
        have := hb8 (fr + k)
        refine g_iadd C dX1_number_23 (by omega) (fun x23 e23 => ?_)
        refine g_bipush C dX1_number_24 (by decide) (fun x24 e24 => ?_)
        refine g_isub C dX1_number_26 (by omega) (fun x26 e26 => ?_)
        refine g_istore_n C dX1_number_27 (by omega) (lv' := [(3, .int x26), (0, .ref h), (1, .int x), (2, .int y), (4, .int n4)]) rfl ?_
        refine g_iinc C dX1_number_28 4 rfl (by omega) (by decide) (by omega) (fun x28 e28 => ?_)
        refine g_lvE (lv' := [(4, .int x28), (3, .int x26), (0, .ref h), (1, .int x), (2, .int y)]) rfl ?_
        refine g_goto C 5 dX1_number_31 (by decide) ?_
        refine g_lv [2, 3, 4, 1, 0] (lv' := [(0, .ref h), (1, .int x), (2, .int y), (3, .int x26), (4, .int x28)]) rfl ?_
        exact ih5 (x28) (x26) (k + 1) (by omega) (by omega) (by omega) (by rw [show numI (lk f P) fr (k + 1) = numI (lk f P) fr k * 10 + (lk f P (fr + k) : Int) - 48 from rfl]; omega)
  refine g_lv [2, 3, 4, 1, 0] (lv' := [(0, .ref h), (1, .int x), (2, .int y), (3, .int x0), (4, .int x)]) rfl ?_
  exact loop5 _ (x) (x0) (0) (Nat.lt_succ_self _) (by omega) (by omega) (by show _ = (0 : Int); omega)
set_option maxHeartbeats 1000000 in
set_option maxRecDepth 10000 in
theorem c_X1_wrongDigit (l : Launch) (E : GE) (h b : Nat) (f : Nat → Int32) (sz pl : Int32) (S P : Nat) (x y : Int32) (fr dg : Nat) (hS : sz.toInt = (S : Int)) (hP : pl.toInt = (P : Int)) (hPS : P ≤ S) (hSm : S ≤ 1500) (hx : x.toInt = (fr : Int)) (hy : y.toInt = (dg : Int)) (hl : fr + dg ≤ S - P) : Ctr l E yX1_wrongDigit cX1_wrongDigit 4 (some .int) 1 (0) (0) [.ref h, .int x, .int y] [(h, .inr (3, [.ref b, .int sz, .int pl])), (b, aB E (1500) (f))] (oI (fun r => r.toInt = nD (lk f P) fr dg) [(h, .inr (3, [.ref b, .int sz, .int pl])), (b, aB E (1500) (f))]) := by
  refine Ctr.intro (by decide) (Nat.le_of_ble_eq_true rfl) (fun g hgl hN C r F hi => ?_)
  subst hgl
  have hb8 := lk_lt f P
  change G E g [(h, .inr (3, [.ref b, .int sz, .int pl])), (b, aB E (1500) (f))] 0 0 0 [(0, .ref h), (1, .int x), (2, .int y)] []
  refine g_iload_n C dX1_wrongDigit_0 1 rfl ?_
  refine g_istore_n C dX1_wrongDigit_1 (by omega) (lv' := [(3, .int x), (0, .ref h), (1, .int x), (2, .int y)]) rfl ?_
  have loop2 : ∀ (n : Nat) (n3 : Int32) (k : Nat) (hm : dg - k < n) (hk : k ≤ dg) (hp : n3.toInt = ((fr + k : Nat) : Int)) (hn : nD (lk f P) fr dg = nD (lk f P) (fr + k) (dg - k)), G E g [(h, .inr (3, [.ref b, .int sz, .int pl])), (b, aB E (1500) (f))] 0 0 2 [(0, .ref h), (1, .int x), (2, .int y), (3, .int n3)] [] := by
    intro n
    induction n with
    | zero => intro n3 k hm hk hp hn; omega
    | succ n ih2 =>
      intro n3 k hm hk hp hn
      refine g_iload_n C dX1_wrongDigit_2 3 rfl ?_
      refine g_iload_n C dX1_wrongDigit_3 1 rfl ?_
      refine g_iload_n C dX1_wrongDigit_4 2 rfl ?_
      refine g_iadd C dX1_wrongDigit_5 (by omega) (fun x5 e5 => ?_)
      refine g_icmp_ge C 28 dX1_wrongDigit_6 (by decide) (fun c6 => ?_) (fun c6 => ?_)
      · refine g_iconst C dX1_wrongDigit_28 (by decide) (fun x28 e28 => ?_)
        exact g_iret C F dX1_wrongDigit_29 rfl rfl (by omega) (by omega) (by refine ⟨_, rfl, ?_, rfl⟩; show _ = _; rw [hn, nD_zero (by omega)]; omega)
      · refine g_aload_n C dX1_wrongDigit_9 0 rfl ?_
        refine g_iload_n C dX1_wrongDigit_10 3 rfl ?_
        refine g_callV C r mv_X1_22 dX1_wrongDigit_11 (c_X1_at' g.l E h b f sz pl S P n3 (fr + k) hS hP hPS hSm (by omega) (by omega)) (wr := []) (As := [.int n3]) (rest := []) (Spl.at [] [0, 1] rfl rfl rfl) 0 rfl rfl rfl rfl (Nat.le_of_ble_eq_true rfl) (by decide) (by omega) (by omega) (fun v w h => ?_)
        obtain ⟨x11, rfl, e11, rfl⟩ := h
        change G E g [(h, .inr (3, [.ref b, .int sz, .int pl])), (b, aB E (1500) (f))] _ _ _ _ [.int x11]
        have := hb8 (fr + k)
        refine g_callN C r mn_X1_62 dX1_wrongDigit_14 (c_X3_isDigit g.l E x11) (wr := [(h, .inr (3, [.ref b, .int sz, .int pl])), (b, aB E (1500) (f))]) (As := [.int x11]) (rest := []) (Spl.at [0, 1] [] rfl rfl rfl) rfl (Nat.le_of_ble_eq_true rfl) (by decide) (by omega) (by omega) (fun v w h => ?_)
        obtain ⟨x14, rfl, e14, rfl⟩ := h
        change G E g [(h, .inr (3, [.ref b, .int sz, .int pl])), (b, aB E (1500) (f))] _ _ _ _ [.int x14]
        refine g_if_ne C 22 dX1_wrongDigit_17 (by decide) (fun c17 => ?_) (fun c17 => ?_)
        · refine g_iinc C dX1_wrongDigit_22 3 rfl (by omega) (by decide) (by omega) (fun x22 e22 => ?_)
          refine g_lvE (lv' := [(3, .int x22), (0, .ref h), (1, .int x), (2, .int y)]) rfl ?_
          refine g_goto C 2 dX1_wrongDigit_25 (by decide) ?_
          refine g_lv [1, 2, 3, 0] (lv' := [(0, .ref h), (1, .int x), (2, .int y), (3, .int x22)]) rfl ?_
          exact ih2 (x22) (k + 1) (by omega) (by omega) (by omega) (by rw [hn, nD_miss (by omega) (by omega), show dg - k - 1 = dg - (k + 1) by omega]; rfl)
        · refine g_iload_n C dX1_wrongDigit_20 3 rfl ?_
          exact g_iret C F dX1_wrongDigit_21 rfl rfl (by omega) (by omega) (by refine ⟨_, rfl, ?_, rfl⟩; show n3.toInt = _; rw [hn, nD_hit (by omega) (by omega)]; omega)
  refine g_lv [1, 2, 3, 0] (lv' := [(0, .ref h), (1, .int x), (2, .int y), (3, .int x)]) rfl ?_
  exact loop2 _ (x) (0) (Nat.lt_succ_self _) (by omega) (by omega) (by rfl)
set_option maxHeartbeats 1000000 in
set_option maxRecDepth 10000 in
theorem c_X1_firstMark (l : Launch) (E : GE) (h b : Nat) (f : Nat → Int32) (sz pl : Int32) (S P : Nat) (x y : Int32) (fr en : Nat) (hS : sz.toInt = (S : Int)) (hP : pl.toInt = (P : Int)) (hPS : P ≤ S) (hSm : S ≤ 1500) (hx : x.toInt = (fr : Int)) (hy : y.toInt = (en : Int)) (hl : en ≤ S - P) (hfe : fr ≤ en) : Ctr l E yX1_firstMark cX1_firstMark 4 (some .int) 1 (0) (0) [.ref h, .int x, .int y] [(h, .inr (3, [.ref b, .int sz, .int pl])), (b, aB E (1500) (f))] (oI (fun r => r.toInt = nM (lk f P) fr (en - fr)) [(h, .inr (3, [.ref b, .int sz, .int pl])), (b, aB E (1500) (f))]) := by
  refine Ctr.intro (by decide) (Nat.le_of_ble_eq_true rfl) (fun g hgl hN C r F hi => ?_)
  subst hgl
  have hb8 := lk_lt f P
  change G E g [(h, .inr (3, [.ref b, .int sz, .int pl])), (b, aB E (1500) (f))] 0 0 0 [(0, .ref h), (1, .int x), (2, .int y)] []
  refine g_iload_n C dX1_firstMark_0 1 rfl ?_
  refine g_istore_n C dX1_firstMark_1 (by omega) (lv' := [(3, .int x), (0, .ref h), (1, .int x), (2, .int y)]) rfl ?_
  have loop2 : ∀ (n : Nat) (n3 : Int32) (k : Nat) (hm : en - k < n) (hk : fr ≤ k ∧ k ≤ en) (hp : n3.toInt = (k : Int)) (hn : nM (lk f P) fr (en - fr) = nM (lk f P) k (en - k)), G E g [(h, .inr (3, [.ref b, .int sz, .int pl])), (b, aB E (1500) (f))] 0 0 2 [(0, .ref h), (1, .int x), (2, .int y), (3, .int n3)] [] := by
    intro n
    induction n with
    | zero => intro n3 k hm hk hp hn; omega
    | succ n ih2 =>
      intro n3 k hm hk hp hn
      refine g_iload_n C dX1_firstMark_2 3 rfl ?_
      refine g_iload_n C dX1_firstMark_3 2 rfl ?_
      refine g_icmp_ge C 26 dX1_firstMark_4 (by decide) (fun c4 => ?_) (fun c4 => ?_)
      · refine g_iconst C dX1_firstMark_26 (by decide) (fun x26 e26 => ?_)
        exact g_iret C F dX1_firstMark_27 rfl rfl (by omega) (by omega) (by refine ⟨_, rfl, ?_, rfl⟩; show _ = _; rw [hn, nM_zero (by omega)]; omega)
      · refine g_aload_n C dX1_firstMark_7 0 rfl ?_
        refine g_iload_n C dX1_firstMark_8 3 rfl ?_
        refine g_callV C r mv_X1_22 dX1_firstMark_9 (c_X1_at' g.l E h b f sz pl S P n3 (k) hS hP hPS hSm (by omega) (by omega)) (wr := []) (As := [.int n3]) (rest := []) (Spl.at [] [0, 1] rfl rfl rfl) 0 rfl rfl rfl rfl (Nat.le_of_ble_eq_true rfl) (by decide) (by omega) (by omega) (fun v w h => ?_)
        obtain ⟨x9, rfl, e9, rfl⟩ := h
        change G E g [(h, .inr (3, [.ref b, .int sz, .int pl])), (b, aB E (1500) (f))] _ _ _ _ [.int x9]
        have := hb8 (k)
        refine g_callN C r mn_X1_59 dX1_firstMark_12 (c_X3_isMark g.l E x9) (wr := [(h, .inr (3, [.ref b, .int sz, .int pl])), (b, aB E (1500) (f))]) (As := [.int x9]) (rest := []) (Spl.at [0, 1] [] rfl rfl rfl) rfl (Nat.le_of_ble_eq_true rfl) (by decide) (by omega) (by omega) (fun v w h => ?_)
        obtain ⟨x12, rfl, e12, rfl⟩ := h
        change G E g [(h, .inr (3, [.ref b, .int sz, .int pl])), (b, aB E (1500) (f))] _ _ _ _ [.int x12]
        refine g_if_eq C 20 dX1_firstMark_15 (by decide) (fun c15 => ?_) (fun c15 => ?_)
        · refine g_iinc C dX1_firstMark_20 3 rfl (by omega) (by decide) (by omega) (fun x20 e20 => ?_)
          refine g_lvE (lv' := [(3, .int x20), (0, .ref h), (1, .int x), (2, .int y)]) rfl ?_
          refine g_goto C 2 dX1_firstMark_23 (by decide) ?_
          refine g_lv [1, 2, 3, 0] (lv' := [(0, .ref h), (1, .int x), (2, .int y), (3, .int x20)]) rfl ?_
          exact ih2 (x20) (k + 1) (by omega) (by omega) (by omega) (by rw [hn, nM_miss (by omega) (by omega), show en - k - 1 = en - (k + 1) by omega])
        · refine g_iload_n C dX1_firstMark_18 3 rfl ?_
          exact g_iret C F dX1_firstMark_19 rfl rfl (by omega) (by omega) (by refine ⟨_, rfl, ?_, rfl⟩; show n3.toInt = _; rw [hn, nM_hit (by omega) (by omega)]; omega)
  refine g_lv [1, 2, 3, 0] (lv' := [(0, .ref h), (1, .int x), (2, .int y), (3, .int x)]) rfl ?_
  exact loop2 _ (x) (fr) (Nat.lt_succ_self _) (by omega) (by omega) (by rfl)
set_option maxHeartbeats 1000000 in
set_option maxRecDepth 10000 in
theorem c_X1_wrongInTotal (l : Launch) (E : GE) (h b : Nat) (f : Nat → Int32) (sz pl : Int32) (S P : Nat)  (hS : sz.toInt = (S : Int)) (hP : pl.toInt = (P : Int)) (hPS : P ≤ S) (hSm : S ≤ 1500) (hl : 24 ≤ S - P) : Ctr l E yX1_wrongInTotal cX1_wrongInTotal 2 (some .int) 2 (0) (0) [.ref h] [(h, .inr (3, [.ref b, .int sz, .int pl])), (b, aB E (1500) (f))] (oI (fun r => r.toInt = wTot (lk f P)) [(h, .inr (3, [.ref b, .int sz, .int pl])), (b, aB E (1500) (f))]) := by
  refine Ctr.intro (by decide) (Nat.le_of_ble_eq_true rfl) (fun g hgl hN C r F hi => ?_)
  subst hgl
  have hb8 := lk_lt f P
  change G E g [(h, .inr (3, [.ref b, .int sz, .int pl])), (b, aB E (1500) (f))] 0 0 0 [(0, .ref h)] []
  refine g_aload_n C dX1_wrongInTotal_0 0 rfl ?_
  refine g_iconst C dX1_wrongInTotal_1 (by decide) (fun x1 e1 => ?_)
  refine g_iconst C dX1_wrongInTotal_2 (by decide) (fun x2 e2 => ?_)
  refine g_callV C r mv_X1_26 dX1_wrongInTotal_3 (c_X1_wrongDigit g.l E h b f sz pl S P x1 x2 (0) 5 hS hP hPS hSm (by omega) (by omega) (by omega)) (wr := []) (As := [.int x1, .int x2]) (rest := []) (Spl.at [] [0, 1] rfl rfl rfl) 0 rfl rfl rfl rfl (Nat.le_of_ble_eq_true rfl) (by decide) (by omega) (by omega) (fun v w h => ?_)
  obtain ⟨x3, rfl, e3, rfl⟩ := h
  change G E g [(h, .inr (3, [.ref b, .int sz, .int pl])), (b, aB E (1500) (f))] _ _ _ _ [.int x3]
  refine g_istore_n C dX1_wrongInTotal_6 (by omega) (lv' := [(1, .int x3), (0, .ref h)]) rfl ?_
  refine g_iload_n C dX1_wrongInTotal_7 0 rfl ?_
  refine g_iconst C dX1_wrongInTotal_8 (by decide) (fun x8 e8 => ?_)
  refine g_icmp_eq C 14 dX1_wrongInTotal_9 (by decide) (fun c9 => ?_) (fun c9 => ?_)
  · refine g_aload_n C dX1_wrongInTotal_14 1 rfl ?_
    refine g_iconst C dX1_wrongInTotal_15 (by decide) (fun x15 e15 => ?_)
    refine g_iconst C dX1_wrongInTotal_16 (by decide) (fun x16 e16 => ?_)
    refine g_callV C r mv_X1_30 dX1_wrongInTotal_17 (c_X1_number g.l E h b f sz pl S P x15 x16 (0) 5 hS hP hPS hSm (by omega) (by omega) (by decide) (by omega)) (wr := []) (As := [.int x15, .int x16]) (rest := []) (Spl.at [] [0, 1] rfl rfl rfl) 0 rfl rfl rfl rfl (Nat.le_of_ble_eq_true rfl) (by decide) (by omega) (by omega) (fun v w h => ?_)
    obtain ⟨x17, rfl, e17, rfl⟩ := h
    change G E g [(h, .inr (3, [.ref b, .int sz, .int pl])), (b, aB E (1500) (f))] _ _ _ _ [.int x17]
    refine g_bipush C dX1_wrongInTotal_20 (by decide) (fun x20 e20 => ?_)
    refine g_icmp_ge C 29 dX1_wrongInTotal_22 (by decide) (fun c22 => ?_) (fun c22 => ?_)
    · refine g_iconst C dX1_wrongInTotal_29 (by decide) (fun x29 e29 => ?_)
      exact g_iret C F dX1_wrongInTotal_30 rfl rfl (by omega) (by omega) (by refine ⟨_, rfl, ?_, rfl⟩; show _ = wTot _; unfold wTot; (repeat' split) <;> omega)
    · refine g_iconst C dX1_wrongInTotal_25 (by decide) (fun x25 e25 => ?_)
      refine g_goto C 30 dX1_wrongInTotal_26 (by decide) ?_
      exact g_iret C F dX1_wrongInTotal_30 rfl rfl (by omega) (by omega) (by refine ⟨_, rfl, ?_, rfl⟩; show _ = wTot _; unfold wTot; (repeat' split) <;> omega)
  · refine g_iload_n C dX1_wrongInTotal_12 0 rfl ?_
    exact g_iret C F dX1_wrongInTotal_13 rfl rfl (by omega) (by omega) (by refine ⟨_, rfl, ?_, rfl⟩; show _ = wTot _; unfold wTot; (repeat' split) <;> omega)
set_option maxHeartbeats 1000000 in
set_option maxRecDepth 10000 in
theorem c_X1_wrongEnd (l : Launch) (E : GE) (h b : Nat) (f : Nat → Int32) (sz pl : Int32) (S P : Nat) (x : Int32) (la : Nat) (hS : sz.toInt = (S : Int)) (hP : pl.toInt = (P : Int)) (hPS : P ≤ S) (hSm : S ≤ 1500) (hx : x.toInt = (la : Int)) (hl : la < S - P) : Ctr l E yX1_wrongEnd cX1_wrongEnd 2 (some .int) 1 (0) (0) [.ref h, .int x] [(h, .inr (3, [.ref b, .int sz, .int pl])), (b, aB E (1500) (f))] (oI (fun r => r.toInt = wEnd (lk f P) la) [(h, .inr (3, [.ref b, .int sz, .int pl])), (b, aB E (1500) (f))]) := by
  refine Ctr.intro (by decide) (Nat.le_of_ble_eq_true rfl) (fun g hgl hN C r F hi => ?_)
  subst hgl
  have hb8 := lk_lt f P
  change G E g [(h, .inr (3, [.ref b, .int sz, .int pl])), (b, aB E (1500) (f))] 0 0 0 [(0, .ref h), (1, .int x)] []
  refine g_aload_n C dX1_wrongEnd_0 0 rfl ?_
  refine g_iload_n C dX1_wrongEnd_1 1 rfl ?_
  refine g_callV C r mv_X1_22 dX1_wrongEnd_2 (c_X1_at' g.l E h b f sz pl S P x (la) hS hP hPS hSm (by omega) (by omega)) (wr := []) (As := [.int x]) (rest := []) (Spl.at [] [0, 1] rfl rfl rfl) 0 rfl rfl rfl rfl (Nat.le_of_ble_eq_true rfl) (by decide) (by omega) (by omega) (fun v w h => ?_)
  obtain ⟨x2, rfl, e2, rfl⟩ := h
  change G E g [(h, .inr (3, [.ref b, .int sz, .int pl])), (b, aB E (1500) (f))] _ _ _ _ [.int x2]
  have := hb8 (la)
  refine g_bipush C dX1_wrongEnd_5 (by decide) (fun x5 e5 => ?_)
  refine g_icmp_ne C 14 dX1_wrongEnd_7 (by decide) (fun c7 => ?_) (fun c7 => ?_)
  · refine g_iload_n C dX1_wrongEnd_14 1 rfl ?_
    exact g_iret C F dX1_wrongEnd_15 rfl rfl (by omega) (by omega) (by refine ⟨_, rfl, ?_, rfl⟩; show _ = wEnd _ _; unfold wEnd; split <;> omega)
  · refine g_iconst C dX1_wrongEnd_10 (by decide) (fun x10 e10 => ?_)
    refine g_goto C 15 dX1_wrongEnd_11 (by decide) ?_
    exact g_iret C F dX1_wrongEnd_15 rfl rfl (by omega) (by omega) (by refine ⟨_, rfl, ?_, rfl⟩; show _ = wEnd _ _; unfold wEnd; split <;> omega)
set_option maxHeartbeats 1000000 in
set_option maxRecDepth 10000 in
theorem c_X1_wrongInControlField (l : Launch) (E : GE) (h b : Nat) (f : Nat → Int32) (sz pl : Int32) (S P : Nat) (x y : Int32) (fr la : Nat) (hS : sz.toInt = (S : Int)) (hP : pl.toInt = (P : Int)) (hPS : P ≤ S) (hSm : S ≤ 1500) (hx : x.toInt = (fr : Int)) (hy : y.toInt = (la : Int)) (hl : la < S - P) (hfe : fr ≤ la) : Ctr l E yX1_wrongInControlField cX1_wrongInControlField 4 (some .int) 2 (0) (0) [.ref h, .int x, .int y] [(h, .inr (3, [.ref b, .int sz, .int pl])), (b, aB E (1500) (f))] (oI (fun r => r.toInt = wCtl (lk f P) fr la) [(h, .inr (3, [.ref b, .int sz, .int pl])), (b, aB E (1500) (f))]) := by
  refine Ctr.intro (by decide) (Nat.le_of_ble_eq_true rfl) (fun g hgl hN C r F hi => ?_)
  subst hgl
  have hb8 := lk_lt f P
  change G E g [(h, .inr (3, [.ref b, .int sz, .int pl])), (b, aB E (1500) (f))] 0 0 0 [(0, .ref h), (1, .int x), (2, .int y)] []
  refine g_aload_n C dX1_wrongInControlField_0 0 rfl ?_
  refine g_iload_n C dX1_wrongInControlField_1 1 rfl ?_
  refine g_iload_n C dX1_wrongInControlField_2 2 rfl ?_
  refine g_callV C r mv_X1_53 dX1_wrongInControlField_3 (c_X1_firstMark g.l E h b f sz pl S P x y (fr) (la) hS hP hPS hSm (by omega) (by omega) (by omega) (by omega)) (wr := []) (As := [.int x, .int y]) (rest := []) (Spl.at [] [0, 1] rfl rfl rfl) 0 rfl rfl rfl rfl (Nat.le_of_ble_eq_true rfl) (by decide) (by omega) (by omega) (fun v w h => ?_)
  obtain ⟨x3, rfl, e3, rfl⟩ := h
  change G E g [(h, .inr (3, [.ref b, .int sz, .int pl])), (b, aB E (1500) (f))] _ _ _ _ [.int x3]
  refine g_istore_n C dX1_wrongInControlField_6 (by omega) (lv' := [(3, .int x3), (0, .ref h), (1, .int x), (2, .int y)]) rfl ?_
  refine g_iload_n C dX1_wrongInControlField_7 0 rfl ?_
  refine g_iconst C dX1_wrongInControlField_8 (by decide) (fun x8 e8 => ?_)
  refine g_icmp_eq C 16 dX1_wrongInControlField_9 (by decide) (fun c9 => ?_) (fun c9 => ?_)
  · refine g_aload_n C dX1_wrongInControlField_16 1 rfl ?_
    refine g_iload_n C dX1_wrongInControlField_17 3 rfl ?_
    refine g_callV C r mv_X1_56 dX1_wrongInControlField_18 (c_X1_wrongEnd g.l E h b f sz pl S P y (la) hS hP hPS hSm (by omega) (by omega)) (wr := []) (As := [.int y]) (rest := []) (Spl.at [] [0, 1] rfl rfl rfl) 0 rfl rfl rfl rfl (Nat.le_of_ble_eq_true rfl) (by decide) (by omega) (by omega) (fun v w h => ?_)
    obtain ⟨x18, rfl, e18, rfl⟩ := h
    change G E g [(h, .inr (3, [.ref b, .int sz, .int pl])), (b, aB E (1500) (f))] _ _ _ _ [.int x18]
    exact g_iret C F dX1_wrongInControlField_21 rfl rfl (by omega) (by omega) (by refine ⟨_, rfl, ?_, rfl⟩; show _ = wCtl _ _ _; unfold wCtl; split <;> omega)
  · refine g_iload_n C dX1_wrongInControlField_12 0 rfl ?_
    refine g_goto C 21 dX1_wrongInControlField_13 (by decide) ?_
    exact g_iret C F dX1_wrongInControlField_21 rfl rfl (by omega) (by omega) (by refine ⟨_, rfl, ?_, rfl⟩; show _ = wCtl _ _ _; unfold wCtl; split <;> omega)
