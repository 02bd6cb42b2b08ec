set_option maxHeartbeats 1000000 in
set_option maxRecDepth 10000 in
theorem c_X3_isMark (l : Launch) (E : GE) (x : Int32)  : Ctr l E yX3_isMark cX3_isMark 1 (some .boolean) 0 (0) (0) [.int x] [] (oI (fun r => (r.toInt = 1 ∧ 29 ≤ x.toInt ∧ x.toInt ≤ 31) ∨ (r.toInt = 0 ∧ ¬ (29 ≤ x.toInt ∧ x.toInt ≤ 31))) []) := by
  refine Ctr.intro (by decide) (Nat.le_of_ble_eq_true rfl) (fun g hgl hN C r F hi => ?_)
  subst hgl
  change G E g [] 0 0 0 [(0, .int x)] []
  refine g_iload_n C dX3_isMark_0 0 rfl ?_
  refine g_bipush C dX3_isMark_1 (by decide) (fun x1 e1 => ?_)
  refine g_icmp_lt C 16 dX3_isMark_3 (by decide) (fun c3 => ?_) (fun c3 => ?_)
  · refine g_iconst C dX3_isMark_16 (by decide) (fun x16 e16 => ?_)
    exact g_iret C F dX3_isMark_17 rfl (nz_b x16 (by omega)) (by omega) (by omega) (by exact ⟨_, rfl, by omega, rfl⟩)
  · refine g_iload_n C dX3_isMark_6 0 rfl ?_
    refine g_bipush C dX3_isMark_7 (by decide) (fun x7 e7 => ?_)
    refine g_icmp_gt C 16 dX3_isMark_9 (by decide) (fun c9 => ?_) (fun c9 => ?_)
    · refine g_iconst C dX3_isMark_16 (by decide) (fun x16 e16 => ?_)
      exact g_iret C F dX3_isMark_17 rfl (nz_b x16 (by omega)) (by omega) (by omega) (by exact ⟨_, rfl, by omega, rfl⟩)
    · refine g_iconst C dX3_isMark_12 (by decide) (fun x12 e12 => ?_)
      refine g_goto C 17 dX3_isMark_13 (by decide) ?_
      exact g_iret C F dX3_isMark_17 rfl (nz_b x12 (by omega)) (by omega) (by omega) (by exact ⟨_, rfl, by omega, rfl⟩)
set_option maxHeartbeats 1000000 in
set_option maxRecDepth 10000 in
theorem c_X3_isDigit (l : Launch) (E : GE) (x : Int32)  : Ctr l E yX3_isDigit cX3_isDigit 1 (some .boolean) 0 (0) (0) [.int x] [] (oI (fun r => (r.toInt = 1 ∧ 48 ≤ x.toInt ∧ x.toInt ≤ 57) ∨ (r.toInt = 0 ∧ ¬ (48 ≤ x.toInt ∧ x.toInt ≤ 57))) []) := by
  refine Ctr.intro (by decide) (Nat.le_of_ble_eq_true rfl) (fun g hgl hN C r F hi => ?_)
  subst hgl
  change G E g [] 0 0 0 [(0, .int x)] []
  refine g_iload_n C dX3_isDigit_0 0 rfl ?_
  refine g_bipush C dX3_isDigit_1 (by decide) (fun x1 e1 => ?_)
  refine g_icmp_lt C 16 dX3_isDigit_3 (by decide) (fun c3 => ?_) (fun c3 => ?_)
  · refine g_iconst C dX3_isDigit_16 (by decide) (fun x16 e16 => ?_)
    exact g_iret C F dX3_isDigit_17 rfl (nz_b x16 (by omega)) (by omega) (by omega) (by exact ⟨_, rfl, by omega, rfl⟩)
  · refine g_iload_n C dX3_isDigit_6 0 rfl ?_
    refine g_bipush C dX3_isDigit_7 (by decide) (fun x7 e7 => ?_)
    refine g_icmp_gt C 16 dX3_isDigit_9 (by decide) (fun c9 => ?_) (fun c9 => ?_)
    · refine g_iconst C dX3_isDigit_16 (by decide) (fun x16 e16 => ?_)
      exact g_iret C F dX3_isDigit_17 rfl (nz_b x16 (by omega)) (by omega) (by omega) (by exact ⟨_, rfl, by omega, rfl⟩)
    · refine g_iconst C dX3_isDigit_12 (by decide) (fun x12 e12 => ?_)
      refine g_goto C 17 dX3_isDigit_13 (by decide) ?_
      exact g_iret C F dX3_isDigit_17 rfl (nz_b x12 (by omega)) (by omega) (by omega) (by exact ⟨_, rfl, by omega, rfl⟩)
set_option maxHeartbeats 1000000 in
set_option maxRecDepth 10000 in
theorem c_X3_isControl (l : Launch) (E : GE) (x : Int32)  : Ctr l E yX3_isControl cX3_isControl 1 (some .boolean) 0 (0) (0) [.int x] [] (oI (fun r => (r.toInt = 1 ∧ x.toInt ≤ 9) ∨ (r.toInt = 0 ∧ 9 < x.toInt)) []) := by
  refine Ctr.intro (by decide) (Nat.le_of_ble_eq_true rfl) (fun g hgl hN C r F hi => ?_)
  subst hgl
  change G E g [] 0 0 0 [(0, .int x)] []
  refine g_iload_n C dX3_isControl_0 0 rfl ?_
  refine g_bipush C dX3_isControl_1 (by decide) (fun x1 e1 => ?_)
  refine g_icmp_gt C 10 dX3_isControl_3 (by decide) (fun c3 => ?_) (fun c3 => ?_)
  · refine g_iconst C dX3_isControl_10 (by decide) (fun x10 e10 => ?_)
    exact g_iret C F dX3_isControl_11 rfl (nz_b x10 (by omega)) (by omega) (by omega) (by exact ⟨_, rfl, by omega, rfl⟩)
  · refine g_iconst C dX3_isControl_6 (by decide) (fun x6 e6 => ?_)
    refine g_goto C 11 dX3_isControl_7 (by decide) ?_
    exact g_iret C F dX3_isControl_11 rfl (nz_b x6 (by omega)) (by omega) (by omega) (by exact ⟨_, rfl, by omega, rfl⟩)
set_option maxHeartbeats 1000000 in
theorem c_X3_fixedByte (l : Launch) (E : GE) (x : Int32) : Ctr l E yX3_fixedByte cX3_fixedByte 1 (some .int) 0 (0) (0) [.int x] [] (oI (fun r => ((x.toInt = 10 ∨ x.toInt = 11) ∧ r.toInt = 50) ∨ (x.toInt = 20 ∧ r.toInt = 52) ∨ (x.toInt = 21 ∧ r.toInt = 53) ∨ (¬ (x.toInt = 10 ∨ x.toInt = 11 ∨ x.toInt = 20 ∨ x.toInt = 21) ∧ r.toInt = -1)) []) := by
  refine Ctr.intro (by decide) (Nat.le_of_ble_eq_true rfl) (fun g hgl hN C r F hi => ?_)
  subst hgl
  change G E g [] 0 0 0 [(0, .int x)] []
  refine g_iload_n C dX3_fixedByte_0 0 rfl ?_
  by_cases h10 : x.toInt = 10
  · refine g_lookup C 44 dX3_fixedByte_1 (by decide) (off := 43) (by rw [h10]; rfl) (by decide) ?_
    refine g_bipush C dX3_fixedByte_44 (by decide) (fun x44 e44 => ?_)
    exact g_iret C F dX3_fixedByte_46 rfl rfl (by omega) (by omega) ⟨_, rfl, by omega, rfl⟩
  by_cases h11 : x.toInt = 11
  · refine g_lookup C 44 dX3_fixedByte_1 (by decide) (off := 43) (by rw [h11]; rfl) (by decide) ?_
    refine g_bipush C dX3_fixedByte_44 (by decide) (fun x44 e44 => ?_)
    exact g_iret C F dX3_fixedByte_46 rfl rfl (by omega) (by omega) ⟨_, rfl, by omega, rfl⟩
  by_cases h20 : x.toInt = 20
  · refine g_lookup C 47 dX3_fixedByte_1 (by decide) (off := 46) (by rw [h20]; rfl) (by decide) ?_
    refine g_bipush C dX3_fixedByte_47 (by decide) (fun x44 e44 => ?_)
    exact g_iret C F dX3_fixedByte_49 rfl rfl (by omega) (by omega) ⟨_, rfl, by omega, rfl⟩
  by_cases h21 : x.toInt = 21
  · refine g_lookup C 50 dX3_fixedByte_1 (by decide) (off := 49) (by rw [h21]; rfl) (by decide) ?_
    refine g_bipush C dX3_fixedByte_50 (by decide) (fun x44 e44 => ?_)
    exact g_iret C F dX3_fixedByte_52 rfl rfl (by omega) (by omega) ⟨_, rfl, by omega, rfl⟩
  refine g_lookup C 53 dX3_fixedByte_1 (by decide) (off := 52) (by simp [Op.lookupswitch.offset, h10, h11, h20, h21, Ne.symm h10, Ne.symm h11, Ne.symm h20, Ne.symm h21]) (by decide) ?_
  refine g_iconst C dX3_fixedByte_53 (by decide) (fun x44 e44 => ?_)
  exact g_iret C F dX3_fixedByte_54 rfl rfl (by omega) (by omega) ⟨_, rfl, by omega, rfl⟩
set_option maxHeartbeats 1000000 in
set_option maxRecDepth 10000 in
theorem c_X1_left (l : Launch) (E : GE) (h b : Nat) (f : Nat → Int32) (sz pl : Int32) (S P : Nat)  (hS : sz.toInt = (S : Int)) (hP : pl.toInt = (P : Int)) (hPS : P ≤ S) (hSm : S ≤ 1500) : Ctr l E yX1_left cX1_left 1 (some .int) 0 (0) (0) [.ref h] [(h, .inr (3, [.ref b, .int sz, .int pl])), (b, aB E (1500) (f))] (oI (fun r => r.toInt = ((S - P : Nat) : Int)) [(h, .inr (3, [.ref b, .int sz, .int pl])), (b, aB E (1500) (f))]) := by
  refine Ctr.intro (by decide) (Nat.le_of_ble_eq_true rfl) (fun g hgl hN C r F hi => ?_)
  subst hgl
  have hb8 := lk_lt f P
  change G E g [(h, .inr (3, [.ref b, .int sz, .int pl])), (b, aB E (1500) (f))] 0 0 0 [(0, .ref h)] []
  refine g_aload_n C dX1_left_0 0 rfl ?_
  refine gf_X1_15 C 0 rfl rfl dX1_left_1 ?_
  refine g_aload_n C dX1_left_4 0 rfl ?_
  refine gf_X1_19 C 0 rfl rfl dX1_left_5 ?_
  refine g_isub C dX1_left_8 (by omega) (fun x8 e8 => ?_)
  exact g_iret C F dX1_left_9 rfl rfl (by omega) (by omega) (by exact ⟨_, rfl, by omega, rfl⟩)
set_option maxHeartbeats 1000000 in
set_option maxRecDepth 10000 in
theorem c_X1_at (l : Launch) (E : GE) (h b : Nat) (f : Nat → Int32) (sz pl : Int32) (S P : Nat) (p : Int32) (hS : sz.toInt = (S : Int)) (hP : pl.toInt = (P : Int)) (hPS : P ≤ S) (hSm : S ≤ 1500) : Ctr l E yX1_at cX1_at 2 (some .int) 0 (0) (0) [.ref h, .int p] [(h, .inr (3, [.ref b, .int sz, .int pl])), (b, aB E (1500) (f))] (oI (fun r => (0 ≤ p.toInt ∧ p.toInt < sz.toInt - pl.toInt ∧ r.toInt = (lk f P p.toInt.toNat : Int)) ∨ (¬ (0 ≤ p.toInt ∧ p.toInt < sz.toInt - pl.toInt) ∧ r.toInt = -1)) [(h, .inr (3, [.ref b, .int sz, .int pl])), (b, aB E (1500) (f))]) := by
  refine Ctr.intro (by decide) (Nat.le_of_ble_eq_true rfl) (fun g hgl hN C r F hi => ?_)
  subst hgl
  change G E g [(h, .inr (3, [.ref b, .int sz, .int pl])), (b, aB E (1500) (f))] 0 0 0 [(0, .ref h), (1, .int p)] []
  refine g_iload_n C dX1_at_0 1 rfl ?_
  refine g_if_lt C 17 dX1_at_1 (by decide) (fun c1 => ?_) (fun c1 => ?_)
  · refine g_iconst C dX1_at_17 (by decide) (fun x17 e17 => ?_)
    refine g_goto C 36 dX1_at_18 (by decide) ?_
    exact g_iret C F dX1_at_36 rfl rfl (by omega) (by omega) (by first | exact ⟨_, rfl, by omega, rfl⟩ | exact ⟨_, rfl, Or.inl ⟨by omega, by omega, by rw [e35, e31]; rfl⟩, rfl⟩)
  · refine g_iload_n C dX1_at_4 1 rfl ?_
    refine g_aload_n C dX1_at_5 0 rfl ?_
    refine gf_X1_15 C 0 rfl rfl dX1_at_6 ?_
    refine g_aload_n C dX1_at_9 0 rfl ?_
    refine gf_X1_19 C 0 rfl rfl dX1_at_10 ?_
    refine g_isub C dX1_at_13 (by omega) (fun x13 e13 => ?_)
    refine g_icmp_lt C 21 dX1_at_14 (by decide) (fun c14 => ?_) (fun c14 => ?_)
    · refine g_aload_n C dX1_at_21 0 rfl ?_
      refine gf_X1_9 C 0 rfl rfl dX1_at_22 ?_
      refine g_aload_n C dX1_at_25 0 rfl ?_
      refine gf_X1_19 C 0 rfl rfl dX1_at_26 ?_
      refine g_iload_n C dX1_at_29 1 rfl ?_
      refine g_iadd C dX1_at_30 (by omega) (fun x30 e30 => ?_)
      refine g_baload C 1 rfl dX1_at_31 (P + p.toInt.toNat) (by omega) (by omega) (fun x31 e31 => ?_)
      refine g_sipush C dX1_at_32 (by decide) (fun x32 e32 => ?_)
      refine g_iand255 C dX1_at_35 e32 (fun x35 e35 l35 => ?_)
      exact g_iret C F dX1_at_36 rfl rfl (by omega) (by omega) (by first | exact ⟨_, rfl, by omega, rfl⟩ | exact ⟨_, rfl, Or.inl ⟨by omega, by omega, by rw [e35, e31]; rfl⟩, rfl⟩)
    · refine g_iconst C dX1_at_17 (by decide) (fun x17 e17 => ?_)
      refine g_goto C 36 dX1_at_18 (by decide) ?_
      exact g_iret C F dX1_at_36 rfl rfl (by omega) (by omega) (by first | exact ⟨_, rfl, by omega, rfl⟩ | exact ⟨_, rfl, Or.inl ⟨by omega, by omega, by rw [e35, e31]; rfl⟩, rfl⟩)
theorem c_X1_at' (l : Launch) (E : GE) (h b : Nat) (f : Nat → Int32) (sz pl : Int32) (S P : Nat) (p : Int32) (k : Nat) (hS : sz.toInt = (S : Int)) (hP : pl.toInt = (P : Int)) (hPS : P ≤ S) (hSm : S ≤ 1500) (hk : p.toInt = (k : Int)) (hl : k < S - P) : Ctr l E yX1_at cX1_at 2 (some .int) 0 (0) (0) [.ref h, .int p] [(h, .inr (3, [.ref b, .int sz, .int pl])), (b, aB E (1500) (f))] (oI (fun r => r.toInt = (lk f P k : Int)) [(h, .inr (3, [.ref b, .int sz, .int pl])), (b, aB E (1500) (f))]) :=
  fun s => Met.post (c_X1_at l E h b f sz pl S P p hS hP hPS hSm s) (by
    rintro v w ⟨r, rfl, hr, rfl⟩
    refine ⟨r, rfl, ?_, rfl⟩
    have : p.toInt.toNat = k := by omega
    rw [this] at hr
    omega)
set_option maxHeartbeats 1000000 in
set_option maxRecDepth 10000 in
theorem c_X1_number (l : Launch) (E : GE) (h b : Nat) (f : Nat → Int32) (sz pl : Int32) (S P : Nat) (x y : Int32) (fr dg : Nat) (hS : sz.toInt = (S : Int)) (hP : pl.toInt = (P : Int)) (hPS : P ≤ S) (hSm : S ≤ 1500) (hx : x.toInt = (fr : Int)) (hy : y.toInt = (dg : Int)) (hd : dg ≤ 5) (hl : fr + dg ≤ S - P) : Ctr l E yX1_number cX1_number 5 (some .int) 1 (0) (0) [.ref h, .int x, .int y] [(h, .inr (3, [.ref b, .int sz, .int pl])), (b, aB E (1500) (f))] (oI (fun r => r.toInt = numI (lk f P) fr dg) [(h, .inr (3, [.ref b, .int sz, .int pl])), (b, aB E (1500) (f))]) := by
  refine Ctr.intro (by decide) (Nat.le_of_ble_eq_true rfl) (fun g hgl hN C r F hi => ?_)
  subst hgl
  have hb8 := lk_lt f P
  change G E g [(h, .inr (3, [.ref b, .int sz, .int pl])), (b, aB E (1500) (f))] 0 0 0 [(0, .ref h), (1, .int x), (2, .int y)] []
  refine g_iconst C dX1_number_0 (by decide) (fun x0 e0 => ?_)
  refine g_istore_n C dX1_number_1 (by omega) (lv' := [(3, .int x0), (0, .ref h), (1, .int x), (2, .int y)]) rfl ?_
  refine g_iload_n C dX1_number_2 2 rfl ?_
  refine g_istore C dX1_number_3 (by omega) (lv' := [(4, .int x), (3, .int x0), (0, .ref h), (1, .int x), (2, .int y)]) rfl ?_
  have loop5 : ∀ (n : Nat) (n4 : Int32) (n3 : Int32) (k : Nat) (hm : dg - k < n) (hk : k ≤ dg) (hp : n4.toInt = ((fr + k : Nat) : Int)) (hn : n3.toInt = numI (lk f P) fr k), G E g [(h, .inr (3, [.ref b, .int sz, .int pl])), (b, aB E (1500) (f))] 0 0 5 [(0, .ref h), (1, .int x), (2, .int y), (3, .int n3), (4, .int n4)] [] := by
    intro n
    induction n with
    | zero => intro n4 n3 k hm hk hp hn; omega
    | succ n ih5 =>
      intro n4 n3 k hm hk hp hn
      have hb := numI_bd hb8 fr k (by omega)
      refine g_iload C dX1_number_5 4 rfl ?_
      refine g_iload_n C dX1_number_7 1 rfl ?_
      refine g_iload_n C dX1_number_8 2 rfl ?_
      refine g_iadd C dX1_number_9 (by omega) (fun x9 e9 => ?_)
      refine g_icmp_ge C 34 dX1_number_10 (by decide) (fun c10 => ?_) (fun c10 => ?_)
      · refine g_iload_n C dX1_number_34 3 rfl ?_
        exact g_iret C F dX1_number_35 rfl rfl (by omega) (by omega) (by refine ⟨_, rfl, ?_, rfl⟩; show n3.toInt = _; rw [hn, show k = dg by omega])
      · refine g_iload_n C dX1_number_13 3 rfl ?_
        refine g_bipush C dX1_number_14 (by decide) (fun x14 e14 => ?_)
        refine g_imul C dX1_number_16 (n3.toInt * 10) (by rw [e14]) (by omega) (fun x16 e16 => ?_)
        refine g_aload_n C dX1_number_17 0 rfl ?_
        refine g_iload C dX1_number_18 4 rfl ?_
        refine g_callV C r mv_X1_22 dX1_number_20 (c_X1_at' g.l E h b f sz pl S P n4 (fr + k) hS hP hPS hSm (by omega) (by omega)) (wr := []) (As := [.int n4]) (rest := [.int x16]) (Spl.at [] [0, 1] rfl rfl rfl) 0 rfl rfl rfl rfl (Nat.le_of_ble_eq_true rfl) (by decide) (by omega) (by omega) (fun v w h => ?_)
        obtain ⟨x20, rfl, e20, rfl⟩ := h
        change G E g [(h, .inr (3, [.ref b, .int sz, .int pl])), (b, aB E (1500) (f))] _ _ _ _ [.int x20, .int x16]
        have := hb8 (fr + k)
        refine g_iadd C dX1_number_23 (by omega) (fun x23 e23 => ?_)
        refine g_bipush C dX1_number_24 (by decide) (fun x24 e24 => ?_)
        refine g_isub C dX1_number_26 (by omega) (fun x26 e26 => ?_)
        refine g_istore_n C dX1_number_27 (by omega) (lv' := [(3, .int x26), (0, .ref h), (1, .int x), (2, .int y), (4, .int n4)]) rfl ?_
        refine g_iinc C dX1_number_28 4 rfl (by omega) (by decide) (by omega) (fun x28 e28 => ?_)
        refine g_lvE (lv' := [(4, .int x28), (3, .int x26), (0, .ref h), (1, .int x), (2, .int y)]) rfl ?_
        refine g_goto C 5 dX1_number_31 (by decide) ?_
        refine g_lv [2, 3, 4, 1, 0] (lv' := [(0, .ref h), (1, .int x), (2, .int y), (3, .int x26), (4, .int x28)]) rfl ?_
        exact ih5 (x28) (x26) (k + 1) (by omega) (by omega) (by omega) (by rw [show numI (lk f P) fr (k + 1) = numI (lk f P) fr k * 10 + (lk f P (fr + k) : Int) - 48 from rfl]; omega)
  refine g_lv [2, 3, 4, 1, 0] (lv' := [(0, .ref h), (1, .int x), (2, .int y), (3, .int x0), (4, .int x)]) rfl ?_
  exact loop5 _ (x) (x0) (0) (Nat.lt_succ_self _) (by omega) (by omega) (by show _ = (0 : Int); omega)
set_option maxHeartbeats 1000000 in
set_option maxRecDepth 10000 in
theorem c_X1_wrongDigit (l : Launch) (E : GE) (h b : Nat) (f : Nat → Int32) (sz pl : Int32) (S P : Nat) (x y : Int32) (fr dg : Nat) (hS : sz.toInt = (S : Int)) (hP : pl.toInt = (P : Int)) (hPS : P ≤ S) (hSm : S ≤ 1500) (hx : x.toInt = (fr : Int)) (hy : y.toInt = (dg : Int)) (hl : fr + dg ≤ S - P) : Ctr l E yX1_wrongDigit cX1_wrongDigit 4 (some .int) 1 (0) (0) [.ref h, .int x, .int y] [(h, .inr (3, [.ref b, .int sz, .int pl])), (b, aB E (1500) (f))] (oI (fun r => r.toInt = nD (lk f P) fr dg) [(h, .inr (3, [.ref b, .int sz, .int pl])), (b, aB E (1500) (f))]) := by
  refine Ctr.intro (by decide) (Nat.le_of_ble_eq_true rfl) (fun g hgl hN C r F hi => ?_)
  subst hgl
  have hb8 := lk_lt f P
  change G E g [(h, .inr (3, [.ref b, .int sz, .int pl])), (b, aB E (1500) (f))] 0 0 0 [(0, .ref h), (1, .int x), (2, .int y)] []
  refine g_iload_n C dX1_wrongDigit_0 1 rfl ?_
  refine g_istore_n C dX1_wrongDigit_1 (by omega) (lv' := [(3, .int x), (0, .ref h), (1, .int x), (2, .int y)]) rfl ?_
  have loop2 : ∀ (n : Nat) (n3 : Int32) (k : Nat) (hm : dg - k < n) (hk : k ≤ dg) (hp : n3.toInt = ((fr + k : Nat) : Int)) (hn : nD (lk f P) fr dg = nD (lk f P) (fr + k) (dg - k)), G E g [(h, .inr (3, [.ref b, .int sz, .int pl])), (b, aB E (1500) (f))] 0 0 2 [(0, .ref h), (1, .int x), (2, .int y), (3, .int n3)] [] := by
    intro n
    induction n with
    | zero => intro n3 k hm hk hp hn; omega
    | succ n ih2 =>
      intro n3 k hm hk hp hn
      refine g_iload_n C dX1_wrongDigit_2 3 rfl ?_
      refine g_iload_n C dX1_wrongDigit_3 1 rfl ?_
      refine g_iload_n C dX1_wrongDigit_4 2 rfl ?_
      refine g_iadd C dX1_wrongDigit_5 (by omega) (fun x5 e5 => ?_)
      refine g_icmp_ge C 28 dX1_wrongDigit_6 (by decide) (fun c6 => ?_) (fun c6 => ?_)
      · refine g_iconst C dX1_wrongDigit_28 (by decide) (fun x28 e28 => ?_)
        exact g_iret C F dX1_wrongDigit_29 rfl rfl (by omega) (by omega) (by refine ⟨_, rfl, ?_, rfl⟩; show _ = _; rw [hn, nD_zero (by omega)]; omega)
      · refine g_aload_n C dX1_wrongDigit_9 0 rfl ?_
        refine g_iload_n C dX1_wrongDigit_10 3 rfl ?_
        refine g_callV C r mv_X1_22 dX1_wrongDigit_11 (c_X1_at' g.l E h b f sz pl S P n3 (fr + k) hS hP hPS hSm (by omega) (by omega)) (wr := []) (As := [.int n3]) (rest := []) (Spl.at [] [0, 1] rfl rfl rfl) 0 rfl rfl rfl rfl (Nat.le_of_ble_eq_true rfl) (by decide) (by omega) (by omega) (fun v w h => ?_)
        obtain ⟨x11, rfl, e11, rfl⟩ := h
        change G E g [(h, .inr (3, [.ref b, .int sz, .int pl])), (b, aB E (1500) (f))] _ _ _ _ [.int x11]
        have := hb8 (fr + k)
        refine g_callN C r mn_X1_62 dX1_wrongDigit_14 (c_X3_isDigit g.l E x11) (wr := [(h, .inr (3, [.ref b, .int sz, .int pl])), (b, aB E (1500) (f))]) (As := [.int x11]) (rest := []) (Spl.at [0, 1] [] rfl rfl rfl) rfl (Nat.le_of_ble_eq_true rfl) (by decide) (by omega) (by omega) (fun v w h => ?_)
        obtain ⟨x14, rfl, e14, rfl⟩ := h
        change G E g [(h, .inr (3, [.ref b, .int sz, .int pl])), (b, aB E (1500) (f))] _ _ _ _ [.int x14]
        refine g_if_ne C 22 dX1_wrongDigit_17 (by decide) (fun c17 => ?_) (fun c17 => ?_)
        · refine g_iinc C dX1_wrongDigit_22 3 rfl (by omega) (by decide) (by omega) (fun x22 e22 => ?_)
          refine g_lvE (lv' := [(3, .int x22), (0, .ref h), (1, .int x), (2, .int y)]) rfl ?_
          refine g_goto C 2 dX1_wrongDigit_25 (by decide) ?_
          refine g_lv [1, 2, 3, 0] (lv' := [(0, .ref h), (1, .int x), (2, .int y), (3, .int x22)]) rfl ?_
          exact ih2 (x22) (k + 1) (by omega) (by omega) (by omega) (by rw [hn, nD_miss (by omega) (by omega), show dg - k - 1 = dg - (k + 1) by omega]; rfl)
        · refine g_iload_n C dX1_wrongDigit_20 3 rfl ?_
          exact g_iret C F dX1_wrongDigit_21 rfl rfl (by omega) (by omega) (by refine ⟨_, rfl, ?_, rfl⟩; show n3.toInt = _; rw [hn, nD_hit (by omega) (by omega)]; omega)
  refine g_lv [1, 2, 3, 0] (lv' := [(0, .ref h), (1, .int x), (2, .int y), (3, .int x)]) rfl ?_
  exact loop2 _ (x) (0) (Nat.lt_succ_self _) (by omega) (by omega) (by rfl)
set_option maxHeartbeats 1000000 in
set_option maxRecDepth 10000 in
theorem c_X1_firstMark (l : Launch) (E : GE) (h b : Nat) (f : Nat → Int32) (sz pl : Int32) (S P : Nat) (x y : Int32) (fr en : Nat) (hS : sz.toInt = (S : Int)) (hP : pl.toInt = (P : Int)) (hPS : P ≤ S) (hSm : S ≤ 1500) (hx : x.toInt = (fr : Int)) (hy : y.toInt = (en : Int)) (hl : en ≤ S - P) (hfe : fr ≤ en) : Ctr l E yX1_firstMark cX1_firstMark 4 (some .int) 1 (0) (0) [.ref h, .int x, .int y] [(h, .inr (3, [.ref b, .int sz, .int pl])), (b, aB E (1500) (f))] (oI (fun r => r.toInt = nM (lk f P) fr (en - fr)) [(h, .inr (3, [.ref b, .int sz, .int pl])), (b, aB E (1500) (f))]) := by
  refine Ctr.intro (by decide) (Nat.le_of_ble_eq_true rfl) (fun g hgl hN C r F hi => ?_)
  subst hgl
  have hb8 := lk_lt f P
  change G E g [(h, .inr (3, [.ref b, .int sz, .int pl])), (b, aB E (1500) (f))] 0 0 0 [(0, .ref h), (1, .int x), (2, .int y)] []
  refine g_iload_n C dX1_firstMark_0 1 rfl ?_
  refine g_istore_n C dX1_firstMark_1 (by omega) (lv' := [(3, .int x), (0, .ref h), (1, .int x), (2, .int y)]) rfl ?_
  have loop2 : ∀ (n : Nat) (n3 : Int32) (k : Nat) (hm : en - k < n) (hk : fr ≤ k ∧ k ≤ en) (hp : n3.toInt = (k : Int)) (hn : nM (lk f P) fr (en - fr) = nM (lk f P) k (en - k)), G E g [(h, .inr (3, [.ref b, .int sz, .int pl])), (b, aB E (1500) (f))] 0 0 2 [(0, .ref h), (1, .int x), (2, .int y), (3, .int n3)] [] := by
    intro n
    induction n with
    | zero => intro n3 k hm hk hp hn; omega
    | succ n ih2 =>
      intro n3 k hm hk hp hn
      refine g_iload_n C dX1_firstMark_2 3 rfl ?_
      refine g_iload_n C dX1_firstMark_3 2 rfl ?_
      refine g_icmp_ge C 26 dX1_firstMark_4 (by decide) (fun c4 => ?_) (fun c4 => ?_)
      · refine g_iconst C dX1_firstMark_26 (by decide) (fun x26 e26 => ?_)
        exact g_iret C F dX1_firstMark_27 rfl rfl (by omega) (by omega) (by refine ⟨_, rfl, ?_, rfl⟩; show _ = _; rw [hn, nM_zero (by omega)]; omega)
      · refine g_aload_n C dX1_firstMark_7 0 rfl ?_
        refine g_iload_n C dX1_firstMark_8 3 rfl ?_
        refine g_callV C r mv_X1_22 dX1_firstMark_9 (c_X1_at' g.l E h b f sz pl S P n3 (k) hS hP hPS hSm (by omega) (by omega)) (wr := []) (As := [.int n3]) (rest := []) (Spl.at [] [0, 1] rfl rfl rfl) 0 rfl rfl rfl rfl (Nat.le_of_ble_eq_true rfl) (by decide) (by omega) (by omega) (fun v w h => ?_)
        obtain ⟨x9, rfl, e9, rfl⟩ := h
        change G E g [(h, .inr (3, [.ref b, .int sz, .int pl])), (b, aB E (1500) (f))] _ _ _ _ [.int x9]
        have := hb8 (k)
        refine g_callN C r mn_X1_59 dX1_firstMark_12 (c_X3_isMark g.l E x9) (wr := [(h, .inr (3, [.ref b, .int sz, .int pl])), (b, aB E (1500) (f))]) (As := [.int x9]) (rest := []) (Spl.at [0, 1] [] rfl rfl rfl) rfl (Nat.le_of_ble_eq_true rfl) (by decide) (by omega) (by omega) (fun v w h => ?_)
        obtain ⟨x12, rfl, e12, rfl⟩ := h
        change G E g [(h, .inr (3, [.ref b, .int sz, .int pl])), (b, aB E (1500) (f))] _ _ _ _ [.int x12]
        refine g_if_eq C 20 dX1_firstMark_15 (by decide) (fun c15 => ?_) (fun c15 => ?_)
        · refine g_iinc C dX1_firstMark_20 3 rfl (by omega) (by decide) (by omega) (fun x20 e20 => ?_)
          refine g_lvE (lv' := [(3, .int x20), (0, .ref h), (1, .int x), (2, .int y)]) rfl ?_
          refine g_goto C 2 dX1_firstMark_23 (by decide) ?_
          refine g_lv [1, 2, 3, 0] (lv' := [(0, .ref h), (1, .int x), (2, .int y), (3, .int x20)]) rfl ?_
          exact ih2 (x20) (k + 1) (by omega) (by omega) (by omega) (by rw [hn, nM_miss (by omega) (by omega), show en - k - 1 = en - (k + 1) by omega])
        · refine g_iload_n C dX1_firstMark_18 3 rfl ?_
          exact g_iret C F dX1_firstMark_19 rfl rfl (by omega) (by omega) (by refine ⟨_, rfl, ?_, rfl⟩; show n3.toInt = _; rw [hn, nM_hit (by omega) (by omega)]; omega)
  refine g_lv [1, 2, 3, 0] (lv' := [(0, .ref h), (1, .int x), (2, .int y), (3, .int x)]) rfl ?_
  exact loop2 _ (x) (fr) (Nat.lt_succ_self _) (by omega) (by omega) (by rfl)
set_option maxHeartbeats 1000000 in
set_option maxRecDepth 10000 in
theorem c_X1_wrongInTotal (l : Launch) (E : GE) (h b : Nat) (f : Nat → Int32) (sz pl : Int32) (S P : Nat)  (hS : sz.toInt = (S : Int)) (hP : pl.toInt = (P : Int)) (hPS : P ≤ S) (hSm : S ≤ 1500) (hl : 24 ≤ S - P) : Ctr l E yX1_wrongInTotal cX1_wrongInTotal 2 (some .int) 2 (0) (0) [.ref h] [(h, .inr (3, [.ref b, .int sz, .int pl])), (b, aB E (1500) (f))] (oI (fun r => r.toInt = wTot (lk f P)) [(h, .inr (3, [.ref b, .int sz, .int pl])), (b, aB E (1500) (f))]) := by
  refine Ctr.intro (by decide) (Nat.le_of_ble_eq_true rfl) (fun g hgl hN C r F hi => ?_)
  subst hgl
  have hb8 := lk_lt f P
  change G E g [(h, .inr (3, [.ref b, .int sz, .int pl])), (b, aB E (1500) (f))] 0 0 0 [(0, .ref h)] []
  refine g_aload_n C dX1_wrongInTotal_0 0 rfl ?_
  refine g_iconst C dX1_wrongInTotal_1 (by decide) (fun x1 e1 => ?_)
  refine g_iconst C dX1_wrongInTotal_2 (by decide) (fun x2 e2 => ?_)
  refine g_callV C r mv_X1_26 dX1_wrongInTotal_3 (c_X1_wrongDigit g.l E h b f sz pl S P x1 x2 (0) 5 hS hP hPS hSm (by omega) (by omega) (by omega)) (wr := []) (As := [.int x1, .int x2]) (rest := []) (Spl.at [] [0, 1] rfl rfl rfl) 0 rfl rfl rfl rfl (Nat.le_of_ble_eq_true rfl) (by decide) (by omega) (by omega) (fun v w h => ?_)
  obtain ⟨x3, rfl, e3, rfl⟩ := h
  change G E g [(h, .inr (3, [.ref b, .int sz, .int pl])), (b, aB E (1500) (f))] _ _ _ _ [.int x3]
  refine g_istore_n C dX1_wrongInTotal_6 (by omega) (lv' := [(1, .int x3), (0, .ref h)]) rfl ?_
  refine g_iload_n C dX1_wrongInTotal_7 0 rfl ?_
  refine g_iconst C dX1_wrongInTotal_8 (by decide) (fun x8 e8 => ?_)
  refine g_icmp_eq C 14 dX1_wrongInTotal_9 (by decide) (fun c9 => ?_) (fun c9 => ?_)
  · refine g_aload_n C dX1_wrongInTotal_14 1 rfl ?_
    refine g_iconst C dX1_wrongInTotal_15 (by decide) (fun x15 e15 => ?_)
    refine g_iconst C dX1_wrongInTotal_16 (by decide) (fun x16 e16 => ?_)
    refine g_callV C r mv_X1_30 dX1_wrongInTotal_17 (c_X1_number g.l E h b f sz pl S P x15 x16 (0) 5 hS hP hPS hSm (by omega) (by omega) (by decide) (by omega)) (wr := []) (As := [.int x15, .int x16]) (rest := []) (Spl.at [] [0, 1] rfl rfl rfl) 0 rfl rfl rfl rfl (Nat.le_of_ble_eq_true rfl) (by decide) (by omega) (by omega) (fun v w h => ?_)
    obtain ⟨x17, rfl, e17, rfl⟩ := h
    change G E g [(h, .inr (3, [.ref b, .int sz, .int pl])), (b, aB E (1500) (f))] _ _ _ _ [.int x17]
    refine g_bipush C dX1_wrongInTotal_20 (by decide) (fun x20 e20 => ?_)
    refine g_icmp_ge C 29 dX1_wrongInTotal_22 (by decide) (fun c22 => ?_) (fun c22 => ?_)
    · refine g_iconst C dX1_wrongInTotal_29 (by decide) (fun x29 e29 => ?_)
      exact g_iret C F dX1_wrongInTotal_30 rfl rfl (by omega) (by omega) (by refine ⟨_, rfl, ?_, rfl⟩; show _ = wTot _; unfold wTot; (repeat' split) <;> omega)
    · refine g_iconst C dX1_wrongInTotal_25 (by decide) (fun x25 e25 => ?_)
      refine g_goto C 30 dX1_wrongInTotal_26 (by decide) ?_
      exact g_iret C F dX1_wrongInTotal_30 rfl rfl (by omega) (by omega) (by refine ⟨_, rfl, ?_, rfl⟩; show _ = wTot _; unfold wTot; (repeat' split) <;> omega)
  · refine g_iload_n C dX1_wrongInTotal_12 0 rfl ?_
    exact g_iret C F dX1_wrongInTotal_13 rfl rfl (by omega) (by omega) (by refine ⟨_, rfl, ?_, rfl⟩; show _ = wTot _; unfold wTot; (repeat' split) <;> omega)
set_option maxHeartbeats 1000000 in
set_option maxRecDepth 10000 in
theorem c_X1_wrongEnd (l : Launch) (E : GE) (h b : Nat) (f : Nat → Int32) (sz pl : Int32) (S P : Nat) (x : Int32) (la : Nat) (hS : sz.toInt = (S : Int)) (hP : pl.toInt = (P : Int)) (hPS : P ≤ S) (hSm : S ≤ 1500) (hx : x.toInt = (la : Int)) (hl : la < S - P) : Ctr l E yX1_wrongEnd cX1_wrongEnd 2 (some .int) 1 (0) (0) [.ref h, .int x] [(h, .inr (3, [.ref b, .int sz, .int pl])), (b, aB E (1500) (f))] (oI (fun r => r.toInt = wEnd (lk f P) la) [(h, .inr (3, [.ref b, .int sz, .int pl])), (b, aB E (1500) (f))]) := by
  refine Ctr.intro (by decide) (Nat.le_of_ble_eq_true rfl) (fun g hgl hN C r F hi => ?_)
  subst hgl
  have hb8 := lk_lt f P
  change G E g [(h, .inr (3, [.ref b, .int sz, .int pl])), (b, aB E (1500) (f))] 0 0 0 [(0, .ref h), (1, .int x)] []
  refine g_aload_n C dX1_wrongEnd_0 0 rfl ?_
  refine g_iload_n C dX1_wrongEnd_1 1 rfl ?_
  refine g_callV C r mv_X1_22 dX1_wrongEnd_2 (c_X1_at' g.l E h b f sz pl S P x (la) hS hP hPS hSm (by omega) (by omega)) (wr := []) (As := [.int x]) (rest := []) (Spl.at [] [0, 1] rfl rfl rfl) 0 rfl rfl rfl rfl (Nat.le_of_ble_eq_true rfl) (by decide) (by omega) (by omega) (fun v w h => ?_)
  obtain ⟨x2, rfl, e2, rfl⟩ := h
  change G E g [(h, .inr (3, [.ref b, .int sz, .int pl])), (b, aB E (1500) (f))] _ _ _ _ [.int x2]
  have := hb8 (la)
  refine g_bipush C dX1_wrongEnd_5 (by decide) (fun x5 e5 => ?_)
  refine g_icmp_ne C 14 dX1_wrongEnd_7 (by decide) (fun c7 => ?_) (fun c7 => ?_)
  · refine g_iload_n C dX1_wrongEnd_14 1 rfl ?_
    exact g_iret C F dX1_wrongEnd_15 rfl rfl (by omega) (by omega) (by refine ⟨_, rfl, ?_, rfl⟩; show _ = wEnd _ _; unfold wEnd; split <;> omega)
  · refine g_iconst C dX1_wrongEnd_10 (by decide) (fun x10 e10 => ?_)
    refine g_goto C 15 dX1_wrongEnd_11 (by decide) ?_
    exact g_iret C F dX1_wrongEnd_15 rfl rfl (by omega) (by omega) (by refine ⟨_, rfl, ?_, rfl⟩; show _ = wEnd _ _; unfold wEnd; split <;> omega)
set_option maxHeartbeats 1000000 in
set_option maxRecDepth 10000 in
theorem c_X1_wrongInControlField (l : Launch) (E : GE) (h b : Nat) (f : Nat → Int32) (sz pl : Int32) (S P : Nat) (x y : Int32) (fr la : Nat) (hS : sz.toInt = (S : Int)) (hP : pl.toInt = (P : Int)) (hPS : P ≤ S) (hSm : S ≤ 1500) (hx : x.toInt = (fr : Int)) (hy : y.toInt = (la : Int)) (hl : la < S - P) (hfe : fr ≤ la) : Ctr l E yX1_wrongInControlField cX1_wrongInControlField 4 (some .int) 2 (0) (0) [.ref h, .int x, .int y] [(h, .inr (3, [.ref b, .int sz, .int pl])), (b, aB E (1500) (f))] (oI (fun r => r.toInt = wCtl (lk f P) fr la) [(h, .inr (3, [.ref b, .int sz, .int pl])), (b, aB E (1500) (f))]) := by
  refine Ctr.intro (by decide) (Nat.le_of_ble_eq_true rfl) (fun g hgl hN C r F hi => ?_)
  subst hgl
  have hb8 := lk_lt f P
  change G E g [(h, .inr (3, [.ref b, .int sz, .int pl])), (b, aB E (1500) (f))] 0 0 0 [(0, .ref h), (1, .int x), (2, .int y)] []
  refine g_aload_n C dX1_wrongInControlField_0 0 rfl ?_
  refine g_iload_n C dX1_wrongInControlField_1 1 rfl ?_
  refine g_iload_n C dX1_wrongInControlField_2 2 rfl ?_
  refine g_callV C r mv_X1_53 dX1_wrongInControlField_3 (c_X1_firstMark g.l E h b f sz pl S P x y (fr) (la) hS hP hPS hSm (by omega) (by omega) (by omega) (by omega)) (wr := []) (As := [.int x, .int y]) (rest := []) (Spl.at [] [0, 1] rfl rfl rfl) 0 rfl rfl rfl rfl (Nat.le_of_ble_eq_true rfl) (by decide) (by omega) (by omega) (fun v w h => ?_)
  obtain ⟨x3, rfl, e3, rfl⟩ := h
  change G E g [(h, .inr (3, [.ref b, .int sz, .int pl])), (b, aB E (1500) (f))] _ _ _ _ [.int x3]
  refine g_istore_n C dX1_wrongInControlField_6 (by omega) (lv' := [(3, .int x3), (0, .ref h), (1, .int x), (2, .int y)]) rfl ?_
  refine g_iload_n C dX1_wrongInControlField_7 0 rfl ?_
  refine g_iconst C dX1_wrongInControlField_8 (by decide) (fun x8 e8 => ?_)
  refine g_icmp_eq C 16 dX1_wrongInControlField_9 (by decide) (fun c9 => ?_) (fun c9 => ?_)
  · refine g_aload_n C dX1_wrongInControlField_16 1 rfl ?_
    refine g_iload_n C dX1_wrongInControlField_17 3 rfl ?_
    refine g_callV C r mv_X1_56 dX1_wrongInControlField_18 (c_X1_wrongEnd g.l E h b f sz pl S P y (la) hS hP hPS hSm (by omega) (by omega)) (wr := []) (As := [.int y]) (rest := []) (Spl.at [] [0, 1] rfl rfl rfl) 0 rfl rfl rfl rfl (Nat.le_of_ble_eq_true rfl) (by decide) (by omega) (by omega) (fun v w h => ?_)
    obtain ⟨x18, rfl, e18, rfl⟩ := h
    change G E g [(h, .inr (3, [.ref b, .int sz, .int pl])), (b, aB E (1500) (f))] _ _ _ _ [.int x18]
    exact g_iret C F dX1_wrongInControlField_21 rfl rfl (by omega) (by omega) (by refine ⟨_, rfl, ?_, rfl⟩; show _ = wCtl _ _ _; unfold wCtl; split <;> omega)
  · refine g_iload_n C dX1_wrongInControlField_12 0 rfl ?_
    refine g_goto C 21 dX1_wrongInControlField_13 (by decide) ?_
    exact g_iret C F dX1_wrongInControlField_21 rfl rfl (by omega) (by omega) (by refine ⟨_, rfl, ?_, rfl⟩; show _ = wCtl _ _ _; unfold wCtl; split <;> omega)
set_option maxHeartbeats 1000000 in
set_option maxRecDepth 10000 in
theorem c_X1_wrongInOtherField (l : Launch) (E : GE) (h b : Nat) (f : Nat → Int32) (sz pl : Int32) (S P : Nat) (x y : Int32) (fr la : Nat) (hS : sz.toInt = (S : Int)) (hP : pl.toInt = (P : Int)) (hPS : P ≤ S) (hSm : S ≤ 1500) (hx : x.toInt = (fr : Int)) (hy : y.toInt = (la : Int)) (hl : la < S - P) (hfe : fr + 2 ≤ la) : Ctr l E yX1_wrongInOtherField cX1_wrongInOtherField 7 (some .int) 2 (0) (0) [.ref h, .int x, .int y] [(h, .inr (3, [.ref b, .int sz, .int pl])), (b, aB E (1500) (f))] (oI (fun r => r.toInt = wOth (lk f P) fr la) [(h, .inr (3, [.ref b, .int sz, .int pl])), (b, aB E (1500) (f))]) := by
  refine Ctr.intro (by decide) (Nat.le_of_ble_eq_true rfl) (fun g hgl hN C r F hi => ?_)
  subst hgl
  have hb8 := lk_lt f P
  change G E g [(h, .inr (3, [.ref b, .int sz, .int pl])), (b, aB E (1500) (f))] 0 0 0 [(0, .ref h), (1, .int x), (2, .int y)] []
  refine g_iload_n C dX1_wrongInOtherField_0 1 rfl ?_
  refine g_iconst C dX1_wrongInOtherField_1 (by decide) (fun x1 e1 => ?_)
  refine g_iadd C dX1_wrongInOtherField_2 (by omega) (fun x2 e2 => ?_)
  refine g_istore_n C dX1_wrongInOtherField_3 (by omega) (lv' := [(3, .int x2), (0, .ref h), (1, .int x), (2, .int y)]) rfl ?_
  refine g_aload_n C dX1_wrongInOtherField_4 1 rfl ?_
  refine g_iload_n C dX1_wrongInOtherField_5 2 rfl ?_
  refine g_iload_n C dX1_wrongInOtherField_6 0 rfl ?_
  refine g_callV C r mv_X1_53 dX1_wrongInOtherField_7 (c_X1_firstMark g.l E h b f sz pl S P x x2 (fr) (fr + 2) hS hP hPS hSm (by omega) (by omega) (by omega) (by omega)) (wr := []) (As := [.int x, .int x2]) (rest := []) (Spl.at [] [0, 1] rfl rfl rfl) 0 rfl rfl rfl rfl (Nat.le_of_ble_eq_true rfl) (by decide) (by omega) (by omega) (fun v w h => ?_)
  obtain ⟨x7, rfl, e7, rfl⟩ := h
  change G E g [(h, .inr (3, [.ref b, .int sz, .int pl])), (b, aB E (1500) (f))] _ _ _ _ [.int x7]
  rw [show fr + 2 - fr = 2 by omega] at e7
  refine g_istore C dX1_wrongInOtherField_10 (by omega) (lv' := [(4, .int x7), (3, .int x2), (0, .ref h), (1, .int x), (2, .int y)]) rfl ?_
  refine g_iload C dX1_wrongInOtherField_12 0 rfl ?_
  refine g_iconst C dX1_wrongInOtherField_14 (by decide) (fun x14 e14 => ?_)
  refine g_icmp_eq C 21 dX1_wrongInOtherField_15 (by decide) (fun c15 => ?_) (fun c15 => ?_)
  · have J38 : ∀ (_ : True) (hq : ¬ (fr + 2 < la ∧ lk f P (fr + 2) ≠ 31)), G E g [(h, .inr (3, [.ref b, .int sz, .int pl])), (b, aB E (1500) (f))] 0 0 38 [(0, .ref h), (1, .int x), (2, .int y), (3, .int x2)] [] := by
      intro _ hq
      refine g_iload_n C dX1_wrongInOtherField_38 3 rfl ?_
      refine g_istore C dX1_wrongInOtherField_39 (by omega) (lv' := [(5, .int x2), (0, .ref h), (1, .int x), (2, .int y), (3, .int x2)]) rfl ?_
      have loop41 : ∀ (n : Nat) (n5 : Int32) (k : Nat) (hm : la - k < n) (hk : fr + 2 ≤ k ∧ k ≤ la) (hp : n5.toInt = (k : Int)) (hn : fI (badO (lk f P) la) (fr + 2) (la - (fr + 2)) = fI (badO (lk f P) la) k (la - k)), G E g [(h, .inr (3, [.ref b, .int sz, .int pl])), (b, aB E (1500) (f))] 0 0 41 [(0, .ref h), (1, .int x), (2, .int y), (3, .int x2), (5, .int n5)] [] := by
        intro n
        induction n with
        | zero => intro n5 k hm hk hp hn; omega
        | succ n ih41 =>
          intro n5 k hm hk hp hn
          refine g_iload C dX1_wrongInOtherField_41 4 rfl ?_
          refine g_iload_n C dX1_wrongInOtherField_43 2 rfl ?_
          refine g_icmp_ge C 112 dX1_wrongInOtherField_44 (by decide) (fun c44 => ?_) (fun c44 => ?_)
          · refine g_aload_n C dX1_wrongInOtherField_112 0 rfl ?_
            refine g_iload_n C dX1_wrongInOtherField_113 2 rfl ?_
            refine g_callV C r mv_X1_56 dX1_wrongInOtherField_114 (c_X1_wrongEnd g.l E h b f sz pl S P y (la) hS hP hPS hSm (by omega) (by omega)) (wr := []) (As := [.int y]) (rest := []) (Spl.at [] [0, 1] rfl rfl rfl) 0 rfl rfl rfl rfl (Nat.le_of_ble_eq_true rfl) (by decide) (by omega) (by omega) (fun v w h => ?_)
            obtain ⟨x114, rfl, e114, rfl⟩ := h
            change G E g [(h, .inr (3, [.ref b, .int sz, .int pl])), (b, aB E (1500) (f))] _ _ _ _ [.int x114]
            exact g_iret C F dX1_wrongInOtherField_117 rfl rfl (by omega) (by omega) (by refine ⟨_, rfl, ?_, rfl⟩; show _ = _; have h9 : fI (badO (lk f P) la) k (la - k) = -1 := fI_zero (by omega); unfold wOth; (repeat' split) <;> omega)
          · have J73 : ∀ (z : Int32) (hz : (z.toInt = 1 ∧ (lk f P (k - 1) = 31 ∨ k + 1 = la)) ∨ (z.toInt = 0 ∧ ¬ (lk f P (k - 1) = 31 ∨ k + 1 = la))), G E g [(h, .inr (3, [.ref b, .int sz, .int pl])), (b, aB E (1500) (f))] 0 0 73 [(0, .ref h), (1, .int x), (2, .int y), (3, .int x2), (5, .int n5)] [.int z] := by
              intro z hz
              refine g_istore C dX1_wrongInOtherField_73 (by omega) (lv' := [(6, .int z), (0, .ref h), (1, .int x), (2, .int y), (3, .int x2), (5, .int n5)]) rfl ?_
              have J106 : ∀ (_ : True) (hmiss : ¬ (29 ≤ lk f P k ∧ lk f P k ≤ 31) ∨ ¬ (lk f P k ≠ 31 ∨ lk f P (k - 1) = 31 ∨ k + 1 = la)), G E g [(h, .inr (3, [.ref b, .int sz, .int pl])), (b, aB E (1500) (f))] 0 0 106 [(0, .ref h), (1, .int x), (2, .int y), (3, .int x2), (5, .int n5)] [] := by
                intro _ hmiss
                refine g_iinc C dX1_wrongInOtherField_106 4 rfl (by omega) (by decide) (by omega) (fun x106 e106 => ?_)
                refine g_lvE (lv' := [(5, .int x106), (0, .ref h), (1, .int x), (2, .int y), (3, .int x2)]) rfl ?_
                refine g_goto C 41 dX1_wrongInOtherField_109 (by decide) ?_
                refine g_lv [1, 2, 3, 4, 0] (lv' := [(0, .ref h), (1, .int x), (2, .int y), (3, .int x2), (5, .int x106)]) rfl ?_
                exact ih41 (x106) (k + 1) (by omega) (by omega) (by omega) (by rw [hn, fO_miss hmiss (by omega), show la - k - 1 = la - (k + 1) by omega])
              refine g_aload_n C dX1_wrongInOtherField_75 1 rfl ?_
              refine g_iload C dX1_wrongInOtherField_76 5 rfl ?_
              refine g_callV C r mv_X1_22 dX1_wrongInOtherField_78 (c_X1_at' g.l E h b f sz pl S P n5 (k) hS hP hPS hSm (by omega) (by omega)) (wr := []) (As := [.int n5]) (rest := []) (Spl.at [] [0, 1] rfl rfl rfl) 0 rfl rfl rfl rfl (Nat.le_of_ble_eq_true rfl) (by decide) (by omega) (by omega) (fun v w h => ?_)
              obtain ⟨x78, rfl, e78, rfl⟩ := h
              change G E g [(h, .inr (3, [.ref b, .int sz, .int pl])), (b, aB E (1500) (f))] _ _ _ _ [.int x78]
              have := hb8 (k)
              refine g_callN C r mn_X1_59 dX1_wrongInOtherField_81 (c_X3_isMark g.l E x78) (wr := [(h, .inr (3, [.ref b, .int sz, .int pl])), (b, aB E (1500) (f))]) (As := [.int x78]) (rest := []) (Spl.at [0, 1] [] rfl rfl rfl) rfl (Nat.le_of_ble_eq_true rfl) (by decide) (by omega) (by omega) (fun v w h => ?_)
              obtain ⟨x81, rfl, e81, rfl⟩ := h
              change G E g [(h, .inr (3, [.ref b, .int sz, .int pl])), (b, aB E (1500) (f))] _ _ _ _ [.int x81]
              refine g_if_eq C 106 dX1_wrongInOtherField_84 (by decide) (fun c84 => ?_) (fun c84 => ?_)
              · refine g_lv [1, 2, 3, 4, 5] (lv' := [(0, .ref h), (1, .int x), (2, .int y), (3, .int x2), (5, .int n5)]) rfl ?_
                exact J106 trivial (by omega)
              · refine g_aload_n C dX1_wrongInOtherField_87 1 rfl ?_
                refine g_iload C dX1_wrongInOtherField_88 5 rfl ?_
                refine g_callV C r mv_X1_22 dX1_wrongInOtherField_90 (c_X1_at' g.l E h b f sz pl S P n5 (k) hS hP hPS hSm (by omega) (by omega)) (wr := []) (As := [.int n5]) (rest := []) (Spl.at [] [0, 1] rfl rfl rfl) 0 rfl rfl rfl rfl (Nat.le_of_ble_eq_true rfl) (by decide) (by omega) (by omega) (fun v w h => ?_)
                obtain ⟨x90, rfl, e90, rfl⟩ := h
                change G E g [(h, .inr (3, [.ref b, .int sz, .int pl])), (b, aB E (1500) (f))] _ _ _ _ [.int x90]
                have := hb8 (k)
                refine g_bipush C dX1_wrongInOtherField_93 (by decide) (fun x93 e93 => ?_)
                refine g_icmp_ne C 103 dX1_wrongInOtherField_95 (by decide) (fun c95 => ?_) (fun c95 => ?_)
                · refine g_iload C dX1_wrongInOtherField_103 5 rfl ?_
                  exact g_iret C F dX1_wrongInOtherField_105 rfl rfl (by omega) (by omega) (by refine ⟨_, rfl, ?_, rfl⟩; show _ = _; have h9 := fO_hit (b := lk f P) (last := la) (fr := k) (n := la - k) (by omega) (by omega) (by omega); unfold wOth; (repeat' split) <;> omega)
                · refine g_iload C dX1_wrongInOtherField_98 0 rfl ?_
                  refine g_if_eq C 106 dX1_wrongInOtherField_100 (by decide) (fun c100 => ?_) (fun c100 => ?_)
                  · refine g_lv [1, 2, 3, 4, 5] (lv' := [(0, .ref h), (1, .int x), (2, .int y), (3, .int x2), (5, .int n5)]) rfl ?_
                    exact J106 trivial (by omega)
                  · refine g_iload C dX1_wrongInOtherField_103 5 rfl ?_
                    exact g_iret C F dX1_wrongInOtherField_105 rfl rfl (by omega) (by omega) (by refine ⟨_, rfl, ?_, rfl⟩; show _ = _; have h9 := fO_hit (b := lk f P) (last := la) (fr := k) (n := la - k) (by omega) (by omega) (by omega); unfold wOth; (repeat' split) <;> omega)
            refine g_aload_n C dX1_wrongInOtherField_47 0 rfl ?_
            refine g_iload C dX1_wrongInOtherField_48 4 rfl ?_
            refine g_iconst C dX1_wrongInOtherField_50 (by decide) (fun x50 e50 => ?_)
            refine g_isub C dX1_wrongInOtherField_51 (by omega) (fun x51 e51 => ?_)
            refine g_callV C r mv_X1_22 dX1_wrongInOtherField_52 (c_X1_at' g.l E h b f sz pl S P x51 (k - 1) hS hP hPS hSm (by omega) (by omega)) (wr := []) (As := [.int x51]) (rest := []) (Spl.at [] [0, 1] rfl rfl rfl) 0 rfl rfl rfl rfl (Nat.le_of_ble_eq_true rfl) (by decide) (by omega) (by omega) (fun v w h => ?_)
            obtain ⟨x52, rfl, e52, rfl⟩ := h
            change G E g [(h, .inr (3, [.ref b, .int sz, .int pl])), (b, aB E (1500) (f))] _ _ _ _ [.int x52]
            have := hb8 (k - 1)
            refine g_bipush C dX1_wrongInOtherField_55 (by decide) (fun x55 e55 => ?_)
            refine g_icmp_eq C 68 dX1_wrongInOtherField_57 (by decide) (fun c57 => ?_) (fun c57 => ?_)
            · refine g_iconst C dX1_wrongInOtherField_68 (by decide) (fun x68 e68 => ?_)
              refine g_goto C 73 dX1_wrongInOtherField_69 (by decide) ?_
              refine g_lv [0, 1, 2, 3, 4] (lv' := [(0, .ref h), (1, .int x), (2, .int y), (3, .int x2), (5, .int n5)]) rfl ?_
              exact J73 (x68) (by omega)
            · refine g_iload C dX1_wrongInOtherField_60 4 rfl ?_
              refine g_iconst C dX1_wrongInOtherField_62 (by decide) (fun x62 e62 => ?_)
              refine g_iadd C dX1_wrongInOtherField_63 (by omega) (fun x63 e63 => ?_)
              refine g_iload_n C dX1_wrongInOtherField_64 2 rfl ?_
              refine g_icmp_ne C 72 dX1_wrongInOtherField_65 (by decide) (fun c65 => ?_) (fun c65 => ?_)
              · refine g_iconst C dX1_wrongInOtherField_72 (by decide) (fun x72 e72 => ?_)
                refine g_lv [0, 1, 2, 3, 4] (lv' := [(0, .ref h), (1, .int x), (2, .int y), (3, .int x2), (5, .int n5)]) rfl ?_
                exact J73 (x72) (by omega)
              · refine g_iconst C dX1_wrongInOtherField_68 (by decide) (fun x68 e68 => ?_)
                refine g_goto C 73 dX1_wrongInOtherField_69 (by decide) ?_
                refine g_lv [0, 1, 2, 3, 4] (lv' := [(0, .ref h), (1, .int x), (2, .int y), (3, .int x2), (5, .int n5)]) rfl ?_
                exact J73 (x68) (by omega)
      refine g_lv [1, 2, 3, 4, 0] (lv' := [(0, .ref h), (1, .int x), (2, .int y), (3, .int x2), (5, .int x2)]) rfl ?_
      exact loop41 _ (x2) (fr + 2) (Nat.lt_succ_self _) (by omega) (by omega) (by rfl)
    refine g_iload_n C dX1_wrongInOtherField_21 1 rfl ?_
    refine g_iload_n C dX1_wrongInOtherField_22 4 rfl ?_
    refine g_icmp_ge C 38 dX1_wrongInOtherField_23 (by decide) (fun c23 => ?_) (fun c23 => ?_)
    · refine g_lv [2, 3, 4, 1] (lv' := [(0, .ref h), (1, .int x), (2, .int y), (3, .int x2)]) rfl ?_
      exact J38 trivial (by omega)
    · refine g_aload_n C dX1_wrongInOtherField_26 2 rfl ?_
      refine g_iload_n C dX1_wrongInOtherField_27 1 rfl ?_
      refine g_callV C r mv_X1_22 dX1_wrongInOtherField_28 (c_X1_at' g.l E h b f sz pl S P x2 (fr + 2) hS hP hPS hSm (by omega) (by omega)) (wr := []) (As := [.int x2]) (rest := []) (Spl.at [] [0, 1] rfl rfl rfl) 0 rfl rfl rfl rfl (Nat.le_of_ble_eq_true rfl) (by decide) (by omega) (by omega) (fun v w h => ?_)
      obtain ⟨x28, rfl, e28, rfl⟩ := h
      change G E g [(h, .inr (3, [.ref b, .int sz, .int pl])), (b, aB E (1500) (f))] _ _ _ _ [.int x28]
      have := hb8 (fr + 2)
      refine g_bipush C dX1_wrongInOtherField_31 (by decide) (fun x31 e31 => ?_)
      refine g_icmp_eq C 38 dX1_wrongInOtherField_33 (by decide) (fun c33 => ?_) (fun c33 => ?_)
      · refine g_lv [2, 3, 4, 1] (lv' := [(0, .ref h), (1, .int x), (2, .int y), (3, .int x2)]) rfl ?_
        exact J38 trivial (by omega)
      · refine g_iload_n C dX1_wrongInOtherField_36 1 rfl ?_
        exact g_iret C F dX1_wrongInOtherField_37 rfl rfl (by omega) (by omega) (by refine ⟨_, rfl, ?_, rfl⟩; show _ = _; unfold wOth; (repeat' split) <;> omega)
  · refine g_iload C dX1_wrongInOtherField_18 0 rfl ?_
    exact g_iret C F dX1_wrongInOtherField_20 rfl rfl (by omega) (by omega) (by refine ⟨_, rfl, ?_, rfl⟩; show _ = _; unfold wOth; (repeat' split) <;> omega)
set_option maxHeartbeats 1000000 in
set_option maxRecDepth 10000 in
theorem c_X1_wrongInLeader (l : Launch) (E : GE) (h b : Nat) (f : Nat → Int32) (sz pl : Int32) (S P : Nat) (x : Int32) (all : Nat) (hS : sz.toInt = (S : Int)) (hP : pl.toInt = (P : Int)) (hPS : P ≤ S) (hSm : S ≤ 1500) (hx : x.toInt = (all : Int)) (hl : 26 ≤ all) (hl2 : all ≤ S - P) : Ctr l E yX1_wrongInLeader cX1_wrongInLeader 5 (some .int) 2 (0) (0) [.ref h, .int x] [(h, .inr (3, [.ref b, .int sz, .int pl])), (b, aB E (1500) (f))] (oI (fun r => r.toInt = wLead (lk f P) all) [(h, .inr (3, [.ref b, .int sz, .int pl])), (b, aB E (1500) (f))]) := by
  refine Ctr.intro (by decide) (Nat.le_of_ble_eq_true rfl) (fun g hgl hN C r F hi => ?_)
  subst hgl
  have hb8 := lk_lt f P
  change G E g [(h, .inr (3, [.ref b, .int sz, .int pl])), (b, aB E (1500) (f))] 0 0 0 [(0, .ref h), (1, .int x)] []
  refine g_iconst C dX1_wrongInLeader_0 (by decide) (fun x0 e0 => ?_)
  refine g_istore_n C dX1_wrongInLeader_1 (by omega) (lv' := [(2, .int x0), (0, .ref h), (1, .int x)]) rfl ?_
  have loop2 : ∀ (n : Nat) (n2 : Int32) (k : Nat) (hm : 24 - k < n) (hk : k ≤ 24) (hp : n2.toInt = (k : Int)) (h10 : 10 < k → lk f P 10 = 50) (h11 : 11 < k → lk f P 11 = 50) (h20 : 20 < k → lk f P 20 = 52) (h21 : 21 < k → lk f P 21 = 53), G E g [(h, .inr (3, [.ref b, .int sz, .int pl])), (b, aB E (1500) (f))] 0 0 2 [(0, .ref h), (1, .int x), (2, .int n2)] [] := by
    intro n
    induction n with
    | zero => intro n2 k hm hk hp h10 h11 h20 h21; omega
    | succ n ih2 =>
      intro n2 k hm hk hp h10 h11 h20 h21
      have k10 : k = 10 → lk f P k = lk f P 10 := fun h => by rw [h]
      have k11 : k = 11 → lk f P k = lk f P 11 := fun h => by rw [h]
      have k20 : k = 20 → lk f P k = lk f P 20 := fun h => by rw [h]
      have k21 : k = 21 → lk f P k = lk f P 21 := fun h => by rw [h]
      refine g_iload_n C dX1_wrongInLeader_2 2 rfl ?_
      refine g_bipush C dX1_wrongInLeader_3 (by decide) (fun x3 e3 => ?_)
      refine g_icmp_ge C 35 dX1_wrongInLeader_5 (by decide) (fun c5 => ?_) (fun c5 => ?_)
      · refine g_aload_n C dX1_wrongInLeader_35 0 rfl ?_
        refine g_bipush C dX1_wrongInLeader_36 (by decide) (fun x36 e36 => ?_)
        refine g_iconst C dX1_wrongInLeader_38 (by decide) (fun x38 e38 => ?_)
        refine g_callV C r mv_X1_26 dX1_wrongInLeader_39 (c_X1_wrongDigit g.l E h b f sz pl S P x36 x38 (12) 5 hS hP hPS hSm (by omega) (by omega) (by omega)) (wr := []) (As := [.int x36, .int x38]) (rest := []) (Spl.at [] [0, 1] rfl rfl rfl) 0 rfl rfl rfl rfl (Nat.le_of_ble_eq_true rfl) (by decide) (by omega) (by omega) (fun v w h => ?_)
        obtain ⟨x39, rfl, e39, rfl⟩ := h
        change G E g [(h, .inr (3, [.ref b, .int sz, .int pl])), (b, aB E (1500) (f))] _ _ _ _ [.int x39]
        refine g_istore_n C dX1_wrongInLeader_42 (by omega) (lv' := [(2, .int x39), (0, .ref h), (1, .int x)]) rfl ?_
        refine g_iload_n C dX1_wrongInLeader_43 0 rfl ?_
        refine g_iconst C dX1_wrongInLeader_44 (by decide) (fun x44 e44 => ?_)
        refine g_icmp_eq C 50 dX1_wrongInLeader_45 (by decide) (fun c45 => ?_) (fun c45 => ?_)
        · refine g_aload_n C dX1_wrongInLeader_50 1 rfl ?_
          refine g_bipush C dX1_wrongInLeader_51 (by decide) (fun x51 e51 => ?_)
          refine g_iconst C dX1_wrongInLeader_53 (by decide) (fun x53 e53 => ?_)
          refine g_callV C r mv_X1_30 dX1_wrongInLeader_54 (c_X1_number g.l E h b f sz pl S P x51 x53 (12) 5 hS hP hPS hSm (by omega) (by omega) (by decide) (by omega)) (wr := []) (As := [.int x51, .int x53]) (rest := []) (Spl.at [] [0, 1] rfl rfl rfl) 0 rfl rfl rfl rfl (Nat.le_of_ble_eq_true rfl) (by decide) (by omega) (by omega) (fun v w h => ?_)
          obtain ⟨x54, rfl, e54, rfl⟩ := h
          change G E g [(h, .inr (3, [.ref b, .int sz, .int pl])), (b, aB E (1500) (f))] _ _ _ _ [.int x54]
          refine g_istore_n C dX1_wrongInLeader_57 (by omega) (lv' := [(3, .int x54), (2, .int x39), (0, .ref h), (1, .int x)]) rfl ?_
          have hd := num5 (b := lk f P) (fr := 12) (fun j h1 h2 => nD_dig (fr := 12) (n := 5) (by omega) j h1 h2)
          have J86 : ∀ (z : Int32) (hz : (z.toInt = 1 ∧ (25 ≤ numI (lk f P) 12 5 ∧ numI (lk f P) 12 5 ≤ (all : Int) - 1 ∧ (numI (lk f P) 12 5 - 25) % 12 = 0)) ∨ (z.toInt = 0 ∧ ¬ (25 ≤ numI (lk f P) 12 5 ∧ numI (lk f P) 12 5 ≤ (all : Int) - 1 ∧ (numI (lk f P) 12 5 - 25) % 12 = 0))), G E g [(h, .inr (3, [.ref b, .int sz, .int pl])), (b, aB E (1500) (f))] 0 0 86 [(0, .ref h), (1, .int x), (3, .int x54)] [.int z] := by
            intro z hz
            refine g_istore C dX1_wrongInLeader_86 (by omega) (lv' := [(4, .int z), (0, .ref h), (1, .int x), (3, .int x54)]) rfl ?_
            refine g_iload C dX1_wrongInLeader_88 0 rfl ?_
            refine g_if_eq C 97 dX1_wrongInLeader_90 (by decide) (fun c90 => ?_) (fun c90 => ?_)
            · refine g_bipush C dX1_wrongInLeader_97 (by decide) (fun x97 e97 => ?_)
              exact g_iret C F dX1_wrongInLeader_99 rfl rfl (by omega) (by omega) (by refine ⟨_, rfl, ?_, rfl⟩; show _ = _; unfold wLead wFix; (repeat' split) <;> omega)
            · refine g_iconst C dX1_wrongInLeader_93 (by decide) (fun x93 e93 => ?_)
              refine g_goto C 99 dX1_wrongInLeader_94 (by decide) ?_
              exact g_iret C F dX1_wrongInLeader_99 rfl rfl (by omega) (by omega) (by refine ⟨_, rfl, ?_, rfl⟩; show _ = _; unfold wLead wFix; (repeat' split) <;> omega)
          refine g_iload_n C dX1_wrongInLeader_58 0 rfl ?_
          refine g_bipush C dX1_wrongInLeader_59 (by decide) (fun x59 e59 => ?_)
          refine g_icmp_lt C 85 dX1_wrongInLeader_61 (by decide) (fun c61 => ?_) (fun c61 => ?_)
          · refine g_iconst C dX1_wrongInLeader_85 (by decide) (fun x85 e85 => ?_)
            refine g_lv [2, 3, 0] (lv' := [(0, .ref h), (1, .int x), (3, .int x54)]) rfl ?_
            exact J86 (x85) (by omega)
          · refine g_iload_n C dX1_wrongInLeader_64 0 rfl ?_
            refine g_iload_n C dX1_wrongInLeader_65 3 rfl ?_
            refine g_iconst C dX1_wrongInLeader_66 (by decide) (fun x66 e66 => ?_)
            refine g_isub C dX1_wrongInLeader_67 (by omega) (fun x67 e67 => ?_)
            refine g_icmp_gt C 85 dX1_wrongInLeader_68 (by decide) (fun c68 => ?_) (fun c68 => ?_)
            · refine g_iconst C dX1_wrongInLeader_85 (by decide) (fun x85 e85 => ?_)
              refine g_lv [2, 3, 0] (lv' := [(0, .ref h), (1, .int x), (3, .int x54)]) rfl ?_
              exact J86 (x85) (by omega)
            · refine g_iload_n C dX1_wrongInLeader_71 0 rfl ?_
              refine g_bipush C dX1_wrongInLeader_72 (by decide) (fun x72 e72 => ?_)
              refine g_isub C dX1_wrongInLeader_74 (by omega) (fun x74 e74 => ?_)
              refine g_bipush C dX1_wrongInLeader_75 (by decide) (fun x75 e75 => ?_)
              refine g_irem C dX1_wrongInLeader_77 (12) (e75) (by omega) (fun x77 e77 => ?_)
              refine g_if_ne C 85 dX1_wrongInLeader_78 (by decide) (fun c78 => ?_) (fun c78 => ?_)
              · refine g_iconst C dX1_wrongInLeader_85 (by decide) (fun x85 e85 => ?_)
                refine g_lv [2, 3, 0] (lv' := [(0, .ref h), (1, .int x), (3, .int x54)]) rfl ?_
                exact J86 (x85) (by omega)
              · refine g_iconst C dX1_wrongInLeader_81 (by decide) (fun x81 e81 => ?_)
                refine g_goto C 86 dX1_wrongInLeader_82 (by decide) ?_
                refine g_lv [2, 3, 0] (lv' := [(0, .ref h), (1, .int x), (3, .int x54)]) rfl ?_
                exact J86 (x81) (by omega)
        · refine g_iload_n C dX1_wrongInLeader_48 0 rfl ?_
          exact g_iret C F dX1_wrongInLeader_49 rfl rfl (by omega) (by omega) (by refine ⟨_, rfl, ?_, rfl⟩; show _ = _; unfold wLead wFix; (repeat' split) <;> omega)
      · refine g_iload_n C dX1_wrongInLeader_8 2 rfl ?_
        refine g_callN C r mn_X1_40 dX1_wrongInLeader_9 (c_X3_fixedByte g.l E n2) (wr := [(h, .inr (3, [.ref b, .int sz, .int pl])), (b, aB E (1500) (f))]) (As := [.int n2]) (rest := []) (Spl.at [0, 1] [] rfl rfl rfl) rfl (Nat.le_of_ble_eq_true rfl) (by decide) (by omega) (by omega) (fun v w h => ?_)
        obtain ⟨x9, rfl, e9, rfl⟩ := h
        change G E g [(h, .inr (3, [.ref b, .int sz, .int pl])), (b, aB E (1500) (f))] _ _ _ _ [.int x9]
        refine g_istore_n C dX1_wrongInLeader_12 (by omega) (lv' := [(3, .int x9), (0, .ref h), (1, .int x), (2, .int n2)]) rfl ?_
        refine g_iload_n C dX1_wrongInLeader_13 0 rfl ?_
        refine g_iconst C dX1_wrongInLeader_14 (by decide) (fun x14 e14 => ?_)
        refine g_icmp_eq C 29 dX1_wrongInLeader_15 (by decide) (fun c15 => ?_) (fun c15 => ?_)
        · refine g_iinc C dX1_wrongInLeader_29 3 rfl (by omega) (by decide) (by omega) (fun x29 e29 => ?_)
          refine g_lvE (lv' := [(2, .int x29), (3, .int x9), (0, .ref h), (1, .int x)]) rfl ?_
          refine g_goto C 2 dX1_wrongInLeader_32 (by decide) ?_
          refine g_lv [2, 3, 0] (lv' := [(0, .ref h), (1, .int x), (2, .int x29)]) rfl ?_
          exact ih2 (x29) (k + 1) (by omega) (by omega) (by omega) (by omega) (by omega) (by omega) (by omega)
        · refine g_aload_n C dX1_wrongInLeader_18 1 rfl ?_
          refine g_iload_n C dX1_wrongInLeader_19 3 rfl ?_
          refine g_callV C r mv_X1_22 dX1_wrongInLeader_20 (c_X1_at' g.l E h b f sz pl S P n2 (k) hS hP hPS hSm (by omega) (by omega)) (wr := []) (As := [.int n2]) (rest := []) (Spl.at [] [0, 1] rfl rfl rfl) 0 rfl rfl rfl rfl (Nat.le_of_ble_eq_true rfl) (by decide) (by omega) (by omega) (fun v w h => ?_)
          obtain ⟨x20, rfl, e20, rfl⟩ := h
          change G E g [(h, .inr (3, [.ref b, .int sz, .int pl])), (b, aB E (1500) (f))] _ _ _ _ [.int x20]
          have := hb8 (k)
          refine g_iload_n C dX1_wrongInLeader_23 0 rfl ?_
          refine g_icmp_eq C 29 dX1_wrongInLeader_24 (by decide) (fun c24 => ?_) (fun c24 => ?_)
          · refine g_iinc C dX1_wrongInLeader_29 3 rfl (by omega) (by decide) (by omega) (fun x29 e29 => ?_)
            refine g_lvE (lv' := [(2, .int x29), (3, .int x9), (0, .ref h), (1, .int x)]) rfl ?_
            refine g_goto C 2 dX1_wrongInLeader_32 (by decide) ?_
            refine g_lv [2, 3, 0] (lv' := [(0, .ref h), (1, .int x), (2, .int x29)]) rfl ?_
            exact ih2 (x29) (k + 1) (by omega) (by omega) (by omega) (by omega) (by omega) (by omega) (by omega)
          · refine g_iload_n C dX1_wrongInLeader_27 3 rfl ?_
            exact g_iret C F dX1_wrongInLeader_28 rfl rfl (by omega) (by omega) (by refine ⟨_, rfl, ?_, rfl⟩; show _ = _; unfold wLead wFix; (repeat' split) <;> omega)
  refine g_lv [1, 2, 0] (lv' := [(0, .ref h), (1, .int x), (2, .int x0)]) rfl ?_
  exact loop2 _ (x0) (0) (Nat.lt_succ_self _) (by omega) (by omega) (by omega) (by omega) (by omega) (by omega)
set_option maxHeartbeats 1000000 in
set_option maxRecDepth 10000 in
theorem c_X1_wrongInRow (l : Launch) (E : GE) (h b : Nat) (f : Nat → Int32) (sz pl : Int32) (S P : Nat) (x y z : Int32) (row base all : Nat) (hS : sz.toInt = (S : Int)) (hP : pl.toInt = (P : Int)) (hPS : P ≤ S) (hSm : S ≤ 1500) (hx : x.toInt = (row : Int)) (hy : y.toInt = (base : Int)) (hz : z.toInt = (all : Int)) (hr : row + 12 ≤ S - P) (hb1 : base ≤ S - P) (hal : all ≤ S - P) (ha0 : 1 ≤ all) : Ctr l E yX1_wrongInRow cX1_wrongInRow 10 (some .int) 3 (0) (0) [.ref h, .int x, .int y, .int z] [(h, .inr (3, [.ref b, .int sz, .int pl])), (b, aB E (1500) (f))] (oI (fun r => r.toInt = wRow (lk f P) row base all) [(h, .inr (3, [.ref b, .int sz, .int pl])), (b, aB E (1500) (f))]) := by
  refine Ctr.intro (by decide) (Nat.le_of_ble_eq_true rfl) (fun g hgl hN C r F hi => ?_)
  subst hgl
  have hb8 := lk_lt f P
  change G E g [(h, .inr (3, [.ref b, .int sz, .int pl])), (b, aB E (1500) (f))] 0 0 0 [(0, .ref h), (1, .int x), (2, .int y), (3, .int z)] []
  refine g_aload_n C dX1_wrongInRow_0 0 rfl ?_
  refine g_iload_n C dX1_wrongInRow_1 1 rfl ?_
  refine g_bipush C dX1_wrongInRow_2 (by decide) (fun x2 e2 => ?_)
  refine g_callV C r mv_X1_26 dX1_wrongInRow_4 (c_X1_wrongDigit g.l E h b f sz pl S P x x2 (row) 12 hS hP hPS hSm (by omega) (by omega) (by omega)) (wr := []) (As := [.int x, .int x2]) (rest := []) (Spl.at [] [0, 1] rfl rfl rfl) 0 rfl rfl rfl rfl (Nat.le_of_ble_eq_true rfl) (by decide) (by omega) (by omega) (fun v w h => ?_)
  obtain ⟨x4, rfl, e4, rfl⟩ := h
  change G E g [(h, .inr (3, [.ref b, .int sz, .int pl])), (b, aB E (1500) (f))] _ _ _ _ [.int x4]
  refine g_istore C dX1_wrongInRow_7 (by omega) (lv' := [(4, .int x4), (0, .ref h), (1, .int x), (2, .int y), (3, .int z)]) rfl ?_
  refine g_iload C dX1_wrongInRow_9 0 rfl ?_
  refine g_iconst C dX1_wrongInRow_11 (by decide) (fun x11 e11 => ?_)
  refine g_icmp_eq C 18 dX1_wrongInRow_12 (by decide) (fun c12 => ?_) (fun c12 => ?_)
  · have hd := nD_dig (b := lk f P) (fr := row) (n := 12) (by omega)
    have hn3 := num3 (b := lk f P) (fr := row) (fun j h1 h2 => hd j (by omega) (by omega))
    have hn4 := num4 (b := lk f P) (fr := row + 3) (fun j h1 h2 => hd j (by omega) (by omega))
    have hn5 := num5 (b := lk f P) (fr := row + 7) (fun j h1 h2 => hd j (by omega) (by omega))
    refine g_aload_n C dX1_wrongInRow_18 1 rfl ?_
    refine g_iload_n C dX1_wrongInRow_19 2 rfl ?_
    refine g_iconst C dX1_wrongInRow_20 (by decide) (fun x20 e20 => ?_)
    refine g_callV C r mv_X1_30 dX1_wrongInRow_21 (c_X1_number g.l E h b f sz pl S P x x20 (row) 3 hS hP hPS hSm (by omega) (by omega) (by decide) (by omega)) (wr := []) (As := [.int x, .int x20]) (rest := []) (Spl.at [] [0, 1] rfl rfl rfl) 0 rfl rfl rfl rfl (Nat.le_of_ble_eq_true rfl) (by decide) (by omega) (by omega) (fun v w h => ?_)
    obtain ⟨x21, rfl, e21, rfl⟩ := h
    change G E g [(h, .inr (3, [.ref b, .int sz, .int pl])), (b, aB E (1500) (f))] _ _ _ _ [.int x21]
    refine g_callN C r mn_X1_43 dX1_wrongInRow_24 (c_X3_isControl g.l E x21) (wr := [(h, .inr (3, [.ref b, .int sz, .int pl])), (b, aB E (1500) (f))]) (As := [.int x21]) (rest := []) (Spl.at [0, 1] [] rfl rfl rfl) rfl (Nat.le_of_ble_eq_true rfl) (by decide) (by omega) (by omega) (fun v w h => ?_)
    obtain ⟨x24, rfl, e24, rfl⟩ := h
    change G E g [(h, .inr (3, [.ref b, .int sz, .int pl])), (b, aB E (1500) (f))] _ _ _ _ [.int x24]
    refine g_istore C dX1_wrongInRow_27 (by omega) (lv' := [(5, .int x24), (4, .int x4), (0, .ref h), (1, .int x), (2, .int y), (3, .int z)]) rfl ?_
    refine g_aload_n C dX1_wrongInRow_29 2 rfl ?_
    refine g_iload_n C dX1_wrongInRow_30 3 rfl ?_
    refine g_iconst C dX1_wrongInRow_31 (by decide) (fun x31 e31 => ?_)
    refine g_iadd C dX1_wrongInRow_32 (by omega) (fun x32 e32 => ?_)
    refine g_iconst C dX1_wrongInRow_33 (by decide) (fun x33 e33 => ?_)
    refine g_callV C r mv_X1_30 dX1_wrongInRow_34 (c_X1_number g.l E h b f sz pl S P x32 x33 (row + 3) 4 hS hP hPS hSm (by omega) (by omega) (by decide) (by omega)) (wr := []) (As := [.int x32, .int x33]) (rest := []) (Spl.at [] [0, 1] rfl rfl rfl) 0 rfl rfl rfl rfl (Nat.le_of_ble_eq_true rfl) (by decide) (by omega) (by omega) (fun v w h => ?_)
    obtain ⟨x34, rfl, e34, rfl⟩ := h
    change G E g [(h, .inr (3, [.ref b, .int sz, .int pl])), (b, aB E (1500) (f))] _ _ _ _ [.int x34]
    refine g_istore C dX1_wrongInRow_37 (by omega) (lv' := [(6, .int x34), (5, .int x24), (4, .int x4), (0, .ref h), (1, .int x), (2, .int y), (3, .int z)]) rfl ?_
    refine g_iload_n C dX1_wrongInRow_39 5 rfl ?_
    refine g_aload_n C dX1_wrongInRow_40 3 rfl ?_
    refine g_iload_n C dX1_wrongInRow_41 4 rfl ?_
    refine g_bipush C dX1_wrongInRow_42 (by decide) (fun x42 e42 => ?_)
    refine g_iadd C dX1_wrongInRow_44 (by omega) (fun x44 e44 => ?_)
    refine g_iconst C dX1_wrongInRow_45 (by decide) (fun x45 e45 => ?_)
    refine g_callV C r mv_X1_30 dX1_wrongInRow_46 (c_X1_number g.l E h b f sz pl S P x44 x45 (row + 7) 5 hS hP hPS hSm (by omega) (by omega) (by decide) (by omega)) (wr := []) (As := [.int x44, .int x45]) (rest := [.int y]) (Spl.at [] [0, 1] rfl rfl rfl) 0 rfl rfl rfl rfl (Nat.le_of_ble_eq_true rfl) (by decide) (by omega) (by omega) (fun v w h => ?_)
    obtain ⟨x46, rfl, e46, rfl⟩ := h
    change G E g [(h, .inr (3, [.ref b, .int sz, .int pl])), (b, aB E (1500) (f))] _ _ _ _ [.int x46, .int y]
    refine g_iadd C dX1_wrongInRow_49 (by omega) (fun x49 e49 => ?_)
    refine g_istore C dX1_wrongInRow_50 (by omega) (lv' := [(7, .int x49), (6, .int x34), (5, .int x24), (4, .int x4), (0, .ref h), (1, .int x), (2, .int y), (3, .int z)]) rfl ?_
    have J62 : ∀ (z8 : Int32) (hz8 : (x24.toInt = 1 ∧ z8.toInt = 1) ∨ (x24.toInt = 0 ∧ z8.toInt = 3)), G E g [(h, .inr (3, [.ref b, .int sz, .int pl])), (b, aB E (1500) (f))] 0 0 62 [(0, .ref h), (1, .int x), (2, .int y), (3, .int z), (5, .int x24), (6, .int x34), (7, .int x49)] [.int z8] := by
      intro z8 hz8
      refine g_istore C dX1_wrongInRow_62 (by omega) (lv' := [(8, .int z8), (0, .ref h), (1, .int x), (2, .int y), (3, .int z), (5, .int x24), (6, .int x34), (7, .int x49)]) rfl ?_
      refine g_iload C dX1_wrongInRow_64 6 rfl ?_
      refine g_iload C dX1_wrongInRow_66 0 rfl ?_
      refine g_icmp_lt C 82 dX1_wrongInRow_68 (by decide) (fun c68 => ?_) (fun c68 => ?_)
      · refine g_iload_n C dX1_wrongInRow_82 2 rfl ?_
        refine g_iconst C dX1_wrongInRow_83 (by decide) (fun x83 e83 => ?_)
        refine g_iadd C dX1_wrongInRow_84 (by omega) (fun x84 e84 => ?_)
        exact g_iret C F dX1_wrongInRow_85 rfl rfl (by omega) (by omega) (by refine ⟨_, rfl, ?_, rfl⟩; show _ = _; unfold wRow; (repeat' split) <;> omega)
      · refine g_iload C dX1_wrongInRow_71 7 rfl ?_
        refine g_iload C dX1_wrongInRow_73 6 rfl ?_
        refine g_iadd C dX1_wrongInRow_75 (by omega) (fun x75 e75 => ?_)
        refine g_iload_n C dX1_wrongInRow_76 4 rfl ?_
        refine g_iconst C dX1_wrongInRow_77 (by decide) (fun x77 e77 => ?_)
        refine g_isub C dX1_wrongInRow_78 (by omega) (fun x78 e78 => ?_)
        refine g_icmp_le C 86 dX1_wrongInRow_79 (by decide) (fun c79 => ?_) (fun c79 => ?_)
        · refine g_iload C dX1_wrongInRow_86 7 rfl ?_
          refine g_iload C dX1_wrongInRow_88 6 rfl ?_
          refine g_iadd C dX1_wrongInRow_90 (by omega) (fun x90 e90 => ?_)
          refine g_iconst C dX1_wrongInRow_91 (by decide) (fun x91 e91 => ?_)
          refine g_isub C dX1_wrongInRow_92 (by omega) (fun x92 e92 => ?_)
          refine g_istore C dX1_wrongInRow_93 (by omega) (lv' := [(9, .int x92), (8, .int z8), (0, .ref h), (1, .int x), (2, .int y), (3, .int z), (5, .int x24), (6, .int x34), (7, .int x49)]) rfl ?_
          refine g_iload C dX1_wrongInRow_95 6 rfl ?_
          refine g_if_eq C 111 dX1_wrongInRow_97 (by decide) (fun c97 => ?_) (fun c97 => ?_)
          · refine g_aload_n C dX1_wrongInRow_111 2 rfl ?_
            refine g_iload C dX1_wrongInRow_112 8 rfl ?_
            refine g_iload C dX1_wrongInRow_114 0 rfl ?_
            refine g_callV C r mv_X1_50 dX1_wrongInRow_116 (c_X1_wrongInOtherField g.l E h b f sz pl S P x49 x92 (base + (numI (lk f P) (row + 7) 5).toNat) (base + (numI (lk f P) (row + 7) 5).toNat + (numI (lk f P) (row + 3) 4).toNat - 1) hS hP hPS hSm (by omega) (by omega) (by omega) (by omega)) (wr := []) (As := [.int x49, .int x92]) (rest := []) (Spl.at [] [0, 1] rfl rfl rfl) 0 rfl rfl rfl rfl (Nat.le_of_ble_eq_true rfl) (by decide) (by omega) (by omega) (fun v w h => ?_)
            obtain ⟨x116, rfl, e116, rfl⟩ := h
            change G E g [(h, .inr (3, [.ref b, .int sz, .int pl])), (b, aB E (1500) (f))] _ _ _ _ [.int x116]
            exact g_iret C F dX1_wrongInRow_119 rfl rfl (by omega) (by omega) (by refine ⟨_, rfl, ?_, rfl⟩; show _ = _; unfold wRow; (repeat' split) <;> omega)
          · refine g_aload_n C dX1_wrongInRow_100 2 rfl ?_
            refine g_iload C dX1_wrongInRow_101 8 rfl ?_
            refine g_iload C dX1_wrongInRow_103 0 rfl ?_
            refine g_callV C r mv_X1_47 dX1_wrongInRow_105 (c_X1_wrongInControlField g.l E h b f sz pl S P x49 x92 (base + (numI (lk f P) (row + 7) 5).toNat) (base + (numI (lk f P) (row + 7) 5).toNat + (numI (lk f P) (row + 3) 4).toNat - 1) hS hP hPS hSm (by omega) (by omega) (by omega) (by omega)) (wr := []) (As := [.int x49, .int x92]) (rest := []) (Spl.at [] [0, 1] rfl rfl rfl) 0 rfl rfl rfl rfl (Nat.le_of_ble_eq_true rfl) (by decide) (by omega) (by omega) (fun v w h => ?_)
            obtain ⟨x105, rfl, e105, rfl⟩ := h
            change G E g [(h, .inr (3, [.ref b, .int sz, .int pl])), (b, aB E (1500) (f))] _ _ _ _ [.int x105]
            refine g_goto C 119 dX1_wrongInRow_108 (by decide) ?_
            exact g_iret C F dX1_wrongInRow_119 rfl rfl (by omega) (by omega) (by refine ⟨_, rfl, ?_, rfl⟩; show _ = _; unfold wRow; (repeat' split) <;> omega)
        · refine g_iload_n C dX1_wrongInRow_82 2 rfl ?_
          refine g_iconst C dX1_wrongInRow_83 (by decide) (fun x83 e83 => ?_)
          refine g_iadd C dX1_wrongInRow_84 (by omega) (fun x84 e84 => ?_)
          exact g_iret C F dX1_wrongInRow_85 rfl rfl (by omega) (by omega) (by refine ⟨_, rfl, ?_, rfl⟩; show _ = _; unfold wRow; (repeat' split) <;> omega)
    refine g_iload C dX1_wrongInRow_52 2 rfl ?_
    refine g_if_eq C 61 dX1_wrongInRow_54 (by decide) (fun c54 => ?_) (fun c54 => ?_)
    · refine g_iconst C dX1_wrongInRow_61 (by decide) (fun x61 e61 => ?_)
      refine g_lv [4, 5, 6, 7, 2, 1, 0] (lv' := [(0, .ref h), (1, .int x), (2, .int y), (3, .int z), (5, .int x24), (6, .int x34), (7, .int x49)]) rfl ?_
      exact J62 (x61) (by omega)
    · refine g_iconst C dX1_wrongInRow_57 (by decide) (fun x57 e57 => ?_)
      refine g_goto C 62 dX1_wrongInRow_58 (by decide) ?_
      refine g_lv [4, 5, 6, 7, 2, 1, 0] (lv' := [(0, .ref h), (1, .int x), (2, .int y), (3, .int z), (5, .int x24), (6, .int x34), (7, .int x49)]) rfl ?_
      exact J62 (x57) (by omega)
  · refine g_iload C dX1_wrongInRow_15 0 rfl ?_
    exact g_iret C F dX1_wrongInRow_17 rfl rfl (by omega) (by omega) (by refine ⟨_, rfl, ?_, rfl⟩; show _ = _; unfold wRow; (repeat' split) <;> omega)
set_option maxHeartbeats 1000000 in
set_option maxRecDepth 10000 in
theorem c_X1_wrongInRecord (l : Launch) (E : GE) (h b : Nat) (f : Nat → Int32) (sz pl : Int32) (S P : Nat) (x : Int32) (all : Nat) (hS : sz.toInt = (S : Int)) (hP : pl.toInt = (P : Int)) (hPS : P ≤ S) (hSm : S ≤ 1500) (hx : x.toInt = (all : Int)) (hl : 26 ≤ all) (hl2 : all ≤ S - P) : Ctr l E yX1_wrongInRecord cX1_wrongInRecord 6 (some .int) 4 (0) (0) [.ref h, .int x] [(h, .inr (3, [.ref b, .int sz, .int pl])), (b, aB E (1500) (f))] (oI (fun r => r.toInt = wRec (lk f P) all) [(h, .inr (3, [.ref b, .int sz, .int pl])), (b, aB E (1500) (f))]) := by
  refine Ctr.intro (by decide) (Nat.le_of_ble_eq_true rfl) (fun g hgl hN C r F hi => ?_)
  subst hgl
  have hb8 := lk_lt f P
  change G E g [(h, .inr (3, [.ref b, .int sz, .int pl])), (b, aB E (1500) (f))] 0 0 0 [(0, .ref h), (1, .int x)] []
  refine g_aload_n C dX1_wrongInRecord_0 0 rfl ?_
  refine g_iload_n C dX1_wrongInRecord_1 1 rfl ?_
  refine g_callV C r mv_X1_33 dX1_wrongInRecord_2 (c_X1_wrongInLeader g.l E h b f sz pl S P x all hS hP hPS hSm (by omega) (by omega) (by omega)) (wr := []) (As := [.int x]) (rest := []) (Spl.at [] [0, 1] rfl rfl rfl) 0 rfl rfl rfl rfl (Nat.le_of_ble_eq_true rfl) (by decide) (by omega) (by omega) (fun v w h => ?_)
  obtain ⟨x2, rfl, e2, rfl⟩ := h
  change G E g [(h, .inr (3, [.ref b, .int sz, .int pl])), (b, aB E (1500) (f))] _ _ _ _ [.int x2]
  refine g_istore_n C dX1_wrongInRecord_5 (by omega) (lv' := [(2, .int x2), (0, .ref h), (1, .int x)]) rfl ?_
  refine g_iload_n C dX1_wrongInRecord_6 0 rfl ?_
  refine g_iconst C dX1_wrongInRecord_7 (by decide) (fun x7 e7 => ?_)
  refine g_icmp_eq C 13 dX1_wrongInRecord_8 (by decide) (fun c8 => ?_) (fun c8 => ?_)
  · have hld := wLead_ok (b := lk f P) (all := all) (by omega)
    refine g_aload_n C dX1_wrongInRecord_13 1 rfl ?_
    refine g_bipush C dX1_wrongInRecord_14 (by decide) (fun x14 e14 => ?_)
    refine g_iconst C dX1_wrongInRecord_16 (by decide) (fun x16 e16 => ?_)
    refine g_callV C r mv_X1_30 dX1_wrongInRecord_17 (c_X1_number g.l E h b f sz pl S P x14 x16 (12) 5 hS hP hPS hSm (by omega) (by omega) (by decide) (by omega)) (wr := []) (As := [.int x14, .int x16]) (rest := []) (Spl.at [] [0, 1] rfl rfl rfl) 0 rfl rfl rfl rfl (Nat.le_of_ble_eq_true rfl) (by decide) (by omega) (by omega) (fun v w h => ?_)
    obtain ⟨x17, rfl, e17, rfl⟩ := h
    change G E g [(h, .inr (3, [.ref b, .int sz, .int pl])), (b, aB E (1500) (f))] _ _ _ _ [.int x17]
    refine g_istore_n C dX1_wrongInRecord_20 (by omega) (lv' := [(3, .int x17), (2, .int x2), (0, .ref h), (1, .int x)]) rfl ?_
    refine g_aload_n C dX1_wrongInRecord_21 2 rfl ?_
    refine g_iload_n C dX1_wrongInRecord_22 0 rfl ?_
    refine g_iconst C dX1_wrongInRecord_23 (by decide) (fun x23 e23 => ?_)
    refine g_isub C dX1_wrongInRecord_24 (by omega) (fun x24 e24 => ?_)
    refine g_callV C r mv_X1_22 dX1_wrongInRecord_25 (c_X1_at' g.l E h b f sz pl S P x24 ((numI (lk f P) 12 5).toNat - 1) hS hP hPS hSm (by omega) (by omega)) (wr := []) (As := [.int x24]) (rest := []) (Spl.at [] [0, 1] rfl rfl rfl) 0 rfl rfl rfl rfl (Nat.le_of_ble_eq_true rfl) (by decide) (by omega) (by omega) (fun v w h => ?_)
    obtain ⟨x25, rfl, e25, rfl⟩ := h
    change G E g [(h, .inr (3, [.ref b, .int sz, .int pl])), (b, aB E (1500) (f))] _ _ _ _ [.int x25]
    have := hb8 ((numI (lk f P) 12 5).toNat - 1)
    refine g_bipush C dX1_wrongInRecord_28 (by decide) (fun x28 e28 => ?_)
    refine g_icmp_eq C 37 dX1_wrongInRecord_30 (by decide) (fun c30 => ?_) (fun c30 => ?_)
    · refine g_aload_n C dX1_wrongInRecord_37 2 rfl ?_
      refine g_iload_n C dX1_wrongInRecord_38 3 rfl ?_
      refine g_iconst C dX1_wrongInRecord_39 (by decide) (fun x39 e39 => ?_)
      refine g_isub C dX1_wrongInRecord_40 (by omega) (fun x40 e40 => ?_)
      refine g_callV C r mv_X1_22 dX1_wrongInRecord_41 (c_X1_at' g.l E h b f sz pl S P x40 (all - 1) hS hP hPS hSm (by omega) (by omega)) (wr := []) (As := [.int x40]) (rest := []) (Spl.at [] [0, 1] rfl rfl rfl) 0 rfl rfl rfl rfl (Nat.le_of_ble_eq_true rfl) (by decide) (by omega) (by omega) (fun v w h => ?_)
      obtain ⟨x41, rfl, e41, rfl⟩ := h
      change G E g [(h, .inr (3, [.ref b, .int sz, .int pl])), (b, aB E (1500) (f))] _ _ _ _ [.int x41]
      have := hb8 (all - 1)
      refine g_bipush C dX1_wrongInRecord_44 (by decide) (fun x44 e44 => ?_)
      refine g_icmp_eq C 53 dX1_wrongInRecord_46 (by decide) (fun c46 => ?_) (fun c46 => ?_)
      · refine g_iload_n C dX1_wrongInRecord_53 0 rfl ?_
        refine g_bipush C dX1_wrongInRecord_54 (by decide) (fun x54 e54 => ?_)
        refine g_isub C dX1_wrongInRecord_56 (by omega) (fun x56 e56 => ?_)
        refine g_bipush C dX1_wrongInRecord_57 (by decide) (fun x57 e57 => ?_)
        refine g_idiv C dX1_wrongInRecord_59 (12) (e57) (by omega) (fun x59 e59 => ?_)
        refine g_istore C dX1_wrongInRecord_60 (by omega) (lv' := [(4, .int x59), (3, .int x17), (2, .int x2), (0, .ref h), (1, .int x)]) rfl ?_
        refine g_iload C dX1_wrongInRecord_62 0 rfl ?_
        refine g_bipush C dX1_wrongInRecord_64 (by decide) (fun x64 e64 => ?_)
        refine g_icmp_le C 72 dX1_wrongInRecord_66 (by decide) (fun c66 => ?_) (fun c66 => ?_)
        · refine g_iconst C dX1_wrongInRecord_72 (by decide) (fun x72 e72 => ?_)
          refine g_istore C dX1_wrongInRecord_73 (by omega) (lv' := [(5, .int x72), (4, .int x59), (3, .int x17), (2, .int x2), (0, .ref h), (1, .int x)]) rfl ?_
          have loop75 : ∀ (n : Nat) (n5 : Int32) (n2 : Int32) (k : Nat) (hm : ((numI (lk f P) 12 5 - 25) / 12).toNat - k < n) (hk : k ≤ ((numI (lk f P) 12 5 - 25) / 12).toNat) (hp : n5.toInt = (k : Int)) (hn : (n2.toInt = -1 ∧ fRow (lk f P) (numI (lk f P) 12 5).toNat all 0 ((numI (lk f P) 12 5 - 25) / 12).toNat = fRow (lk f P) (numI (lk f P) 12 5).toNat all k (((numI (lk f P) 12 5 - 25) / 12).toNat - k)) ∨ (n2.toInt ≠ -1 ∧ n2.toInt = fRow (lk f P) (numI (lk f P) 12 5).toNat all 0 ((numI (lk f P) 12 5 - 25) / 12).toNat)), G E g [(h, .inr (3, [.ref b, .int sz, .int pl])), (b, aB E (1500) (f))] 0 0 75 [(0, .ref h), (1, .int x), (2, .int n2), (3, .int x17), (4, .int x59), (5, .int n5)] [] := by
            intro n
            induction n with
            | zero => intro n5 n2 k hm hk hp hn; omega
            | succ n ih75 =>
              intro n5 n2 k hm hk hp hn
              refine g_iload C dX1_wrongInRecord_75 5 rfl ?_
              refine g_iload C dX1_wrongInRecord_77 4 rfl ?_
              refine g_icmp_ge C 108 dX1_wrongInRecord_79 (by decide) (fun c79 => ?_) (fun c79 => ?_)
              · refine g_iload_n C dX1_wrongInRecord_108 2 rfl ?_
                exact g_iret C F dX1_wrongInRecord_109 rfl rfl (by omega) (by omega) (by refine ⟨_, rfl, ?_, rfl⟩; show _ = _; have h9 : n2.toInt = fRow (lk f P) (numI (lk f P) 12 5).toNat all 0 ((numI (lk f P) 12 5 - 25) / 12).toNat := rowend (by omega) hn; unfold wRec; (repeat' split) <;> omega)
              · refine g_iload_n C dX1_wrongInRecord_82 2 rfl ?_
                refine g_iconst C dX1_wrongInRecord_83 (by decide) (fun x83 e83 => ?_)
                refine g_icmp_ne C 108 dX1_wrongInRecord_84 (by decide) (fun c84 => ?_) (fun c84 => ?_)
                · refine g_iload_n C dX1_wrongInRecord_108 2 rfl ?_
                  exact g_iret C F dX1_wrongInRecord_109 rfl rfl (by omega) (by omega) (by refine ⟨_, rfl, ?_, rfl⟩; show _ = _; have h9 : n2.toInt = fRow (lk f P) (numI (lk f P) 12 5).toNat all 0 ((numI (lk f P) 12 5 - 25) / 12).toNat := rowend (by omega) hn; unfold wRec; (repeat' split) <;> omega)
                · refine g_aload_n C dX1_wrongInRecord_87 0 rfl ?_
                  refine g_bipush C dX1_wrongInRecord_88 (by decide) (fun x88 e88 => ?_)
                  refine g_bipush C dX1_wrongInRecord_90 (by decide) (fun x90 e90 => ?_)
                  refine g_iload C dX1_wrongInRecord_92 5 rfl ?_
                  refine g_imul C dX1_wrongInRecord_94 (12 * n5.toInt) (by rw [e90]) (by omega) (fun x94 e94 => ?_)
                  refine g_iadd C dX1_wrongInRecord_95 (by omega) (fun x95 e95 => ?_)
                  refine g_iload_n C dX1_wrongInRecord_96 3 rfl ?_
                  refine g_iload_n C dX1_wrongInRecord_97 1 rfl ?_
                  refine g_callV C r mv_X1_36 dX1_wrongInRecord_98 (c_X1_wrongInRow g.l E h b f sz pl S P x95 x17 x (24 + 12 * k) (numI (lk f P) 12 5).toNat all hS hP hPS hSm (by omega) (by omega) (by omega) (by omega) (by omega) (by omega) (by omega)) (wr := []) (As := [.int x95, .int x17, .int x]) (rest := []) (Spl.at [] [0, 1] rfl rfl rfl) 0 rfl rfl rfl rfl (Nat.le_of_ble_eq_true rfl) (by decide) (by omega) (by omega) (fun v w h => ?_)
                  obtain ⟨x98, rfl, e98, rfl⟩ := h
                  change G E g [(h, .inr (3, [.ref b, .int sz, .int pl])), (b, aB E (1500) (f))] _ _ _ _ [.int x98]
                  refine g_istore_n C dX1_wrongInRecord_101 (by omega) (lv' := [(2, .int x98), (0, .ref h), (1, .int x), (3, .int x17), (4, .int x59), (5, .int n5)]) rfl ?_
                  refine g_iinc C dX1_wrongInRecord_102 5 rfl (by omega) (by decide) (by omega) (fun x102 e102 => ?_)
                  refine g_lvE (lv' := [(5, .int x102), (2, .int x98), (0, .ref h), (1, .int x), (3, .int x17), (4, .int x59)]) rfl ?_
                  refine g_goto C 75 dX1_wrongInRecord_105 (by decide) ?_
                  refine g_lv [2, 3, 1, 4, 5, 0] (lv' := [(0, .ref h), (1, .int x), (2, .int x98), (3, .int x17), (4, .int x59), (5, .int x102)]) rfl ?_
                  exact ih75 (x102) (x98) (k + 1) (by omega) (by omega) (by omega) (by exact rowstep hn (by omega) (by omega) e98)
          refine g_lv [4, 5, 3, 2, 1, 0] (lv' := [(0, .ref h), (1, .int x), (2, .int x2), (3, .int x17), (4, .int x59), (5, .int x72)]) rfl ?_
          exact loop75 _ (x72) (x2) (0) (Nat.lt_succ_self _) (by omega) (by omega) (by exact Or.inl ⟨by omega, rfl⟩)
        · refine g_bipush C dX1_wrongInRecord_69 (by decide) (fun x69 e69 => ?_)
          exact g_iret C F dX1_wrongInRecord_71 rfl rfl (by omega) (by omega) (by refine ⟨_, rfl, ?_, rfl⟩; show _ = _; unfold wRec; (repeat' split) <;> omega)
      · refine g_iload_n C dX1_wrongInRecord_49 3 rfl ?_
        refine g_iconst C dX1_wrongInRecord_50 (by decide) (fun x50 e50 => ?_)
        refine g_isub C dX1_wrongInRecord_51 (by omega) (fun x51 e51 => ?_)
        exact g_iret C F dX1_wrongInRecord_52 rfl rfl (by omega) (by omega) (by refine ⟨_, rfl, ?_, rfl⟩; show _ = _; unfold wRec; (repeat' split) <;> omega)
    · refine g_iload_n C dX1_wrongInRecord_33 0 rfl ?_
      refine g_iconst C dX1_wrongInRecord_34 (by decide) (fun x34 e34 => ?_)
      refine g_isub C dX1_wrongInRecord_35 (by omega) (fun x35 e35 => ?_)
      exact g_iret C F dX1_wrongInRecord_36 rfl rfl (by omega) (by omega) (by refine ⟨_, rfl, ?_, rfl⟩; show _ = _; unfold wRec; (repeat' split) <;> omega)
  · refine g_iload_n C dX1_wrongInRecord_11 0 rfl ?_
    exact g_iret C F dX1_wrongInRecord_12 rfl rfl (by omega) (by omega) (by refine ⟨_, rfl, ?_, rfl⟩; show _ = _; unfold wRec; (repeat' split) <;> omega)
