set_option maxHeartbeats 2000000 in
set_option maxRecDepth 10000 in
theorem c_X3_takeField (l : Launch) (E : GE) (x ip ib : Nat) (f : Nat → Int32) (sz pl : Int32) (S P : Nat) (h bq cp : Nat) (ff : Nat → Int32) (tg f1 f2 fs fu y z t : Int32) (tag fr la : Nat) (z1 z2 z3 z4 z5 z6 z7 : Value) (hS : sz.toInt = (S : Int)) (hP : pl.toInt = (P : Int)) (hPS : P ≤ S) (hSm : S ≤ 1500) (hy : y.toInt = (tag : Int)) (hz : z.toInt = (fr : Int)) (ht : t.toInt = (la : Int)) (hfl : fr ≤ la) (hf2 : 9 < tag → fr + 2 ≤ la) (hla : la < S - P) (gB : BF ff) (gC : 16 ≤ cp) (gD : cp ≤ 4000) : Ctr l E yX3_takeField cX3_takeField 6 none 4 (la - fr) (4 * (la - fr)) [.ref x, .ref h, .int y, .int z, .int t] [(x, .inr (5, [.ref ip, z1, z2, z3, z4, z5, z6, z7])), (ip, .inr (3, [.ref ib, .int sz, .int pl])), (ib, aB E (1500) (f)), (h, .inr (2, [.int tg, .int f1, .int f2, .ref bq, .int fs, .int fu])), (bq, aB E (cp) (ff))] (fun v w => v = none ∧ ∃ (q n : Nat) (nf : Nat → Int32) (i1 i2 s u : Int32), FR (y, i1, i2, s, u, q, n, nf) tag (sl (lk f P) fr (la - fr)) ∧ BF nf ∧ 16 ≤ n ∧ n ≤ 4000 ∧ w = [(x, .inr (5, [.ref ip, z1, z2, z3, z4, z5, z6, z7])), (ip, .inr (3, [.ref ib, .int sz, .int pl])), (ib, aB E (1500) (f)), (h, .inr (2, [.int y, .int i1, .int i2, .ref q, .int s, .int u])), (q, aB E (n) (nf))]) := by
  refine Ctr.intro (by decide) (Nat.le_of_ble_eq_true rfl) (fun g hgl hN C r F hi => ?_)
  subst hgl
  have hb8 := lk_lt f P
  change G E g [(x, .inr (5, [.ref ip, z1, z2, z3, z4, z5, z6, z7])), (ip, .inr (3, [.ref ib, .int sz, .int pl])), (ib, aB E (1500) (f)), (h, .inr (2, [.int tg, .int f1, .int f2, .ref bq, .int fs, .int fu])), (bq, aB E (cp) (ff))] 0 0 0 [(0, .ref x), (1, .ref h), (2, .int y), (3, .int z), (4, .int t)] []
  refine g_iload_n C dX3_takeField_0 3 rfl ?_
  refine g_istore C dX3_takeField_1 (by rw [hN]; decide) (lv' := [(5, .int z), (0, .ref x), (1, .ref h), (2, .int y), (3, .int z), (4, .int t)]) rfl ?_
  refine g_iload_n C dX3_takeField_3 3 rfl ?_
  refine g_callS C r ms_X3_85 dX3_takeField_4 (c_X3_isControl g.l E y) (wr := [(x, .inr (5, [.ref ip, z1, z2, z3, z4, z5, z6, z7])), (ip, .inr (3, [.ref ib, .int sz, .int pl])), (ib, aB E (1500) (f)), (h, .inr (2, [.int tg, .int f1, .int f2, .ref bq, .int fs, .int fu])), (bq, aB E (cp) (ff))]) (As := [.int y]) (rest := []) (Spl.at [0, 1, 2, 3, 4] [] rfl rfl rfl) rfl (Nat.le_of_ble_eq_true rfl) (by decide) (by omega) (by omega) (fun v w h => ?_)
  obtain ⟨x4, rfl, e4, rfl⟩ := h
  change G E g [(x, .inr (5, [.ref ip, z1, z2, z3, z4, z5, z6, z7])), (ip, .inr (3, [.ref ib, .int sz, .int pl])), (ib, aB E (1500) (f)), (h, .inr (2, [.int tg, .int f1, .int f2, .ref bq, .int fs, .int fu])), (bq, aB E (cp) (ff))] _ _ _ _ [.int x4]
  refine g_if_eq C 20 dX3_takeField_7 (by decide) (fun c7 => ?_) (fun c7 => ?_)
  · replace e4 := bl0 e4 c7
    refine g_aload_n C dX3_takeField_20 2 rfl ?_
    refine g_iload_n C dX3_takeField_21 3 rfl ?_
    refine g_aload_n C dX3_takeField_22 1 rfl ?_
    refine gf_X3_10 C 0 rfl rfl dX3_takeField_23 ?_
    refine g_iload_n C dX3_takeField_26 4 rfl ?_
    refine g_callV C r mv_X3_169 dX3_takeField_27 (c_X1_at' g.l E ip ib f sz pl S P z (fr) hS hP hPS hSm (by omega) (by omega)) (wr := [(x, .inr (5, [.ref ip, z1, z2, z3, z4, z5, z6, z7])), (h, .inr (2, [.int tg, .int f1, .int f2, .ref bq, .int fs, .int fu])), (bq, aB E (cp) (ff))]) (As := [.int z]) (rest := [.int y, .ref h]) (Spl.at [0, 3, 4] [1, 2] rfl rfl rfl) 0 rfl rfl rfl rfl (Nat.le_of_ble_eq_true rfl) (by decide) (by omega) (by omega) (fun v w h => ?_)
    obtain ⟨x27, rfl, e27, rfl⟩ := h
    change G E g [(x, .inr (5, [.ref ip, z1, z2, z3, z4, z5, z6, z7])), (h, .inr (2, [.int tg, .int f1, .int f2, .ref bq, .int fs, .int fu])), (bq, aB E (cp) (ff)), (ip, .inr (3, [.ref ib, .int sz, .int pl])), (ib, aB E (1500) (f))] _ _ _ _ [.int x27, .int y, .ref h]
    refine g_aload_n C dX3_takeField_30 1 rfl ?_
    refine gf_X3_10 C 0 rfl rfl dX3_takeField_31 ?_
    refine g_iload_n C dX3_takeField_34 4 rfl ?_
    refine g_iconst C dX3_takeField_35 (by decide) (fun x35 e35 => ?_)
    refine g_iadd C dX3_takeField_36 (by omega) (fun x36 e36 => ?_)
    refine g_callV C r mv_X3_169 dX3_takeField_37 (c_X1_at' g.l E ip ib f sz pl S P x36 (fr + 1) hS hP hPS hSm (by omega) (by omega)) (wr := [(x, .inr (5, [.ref ip, z1, z2, z3, z4, z5, z6, z7])), (h, .inr (2, [.int tg, .int f1, .int f2, .ref bq, .int fs, .int fu])), (bq, aB E (cp) (ff))]) (As := [.int x36]) (rest := [.int x27, .int y, .ref h]) (Spl.at [0, 1, 2] [3, 4] rfl rfl rfl) 0 rfl rfl rfl rfl (Nat.le_of_ble_eq_true rfl) (by decide) (by omega) (by omega) (fun v w h => ?_)
    obtain ⟨x37, rfl, e37, rfl⟩ := h
    change G E g [(x, .inr (5, [.ref ip, z1, z2, z3, z4, z5, z6, z7])), (h, .inr (2, [.int tg, .int f1, .int f2, .ref bq, .int fs, .int fu])), (bq, aB E (cp) (ff)), (ip, .inr (3, [.ref ib, .int sz, .int pl])), (ib, aB E (1500) (f))] _ _ _ _ [.int x37, .int x27, .int y, .ref h]
    refine g_callV C r mv_X3_120 dX3_takeField_40 (c_X0_begin g.l E h bq tg f1 f2 fs fu y x27 x37) (wr := [(x, .inr (5, [.ref ip, z1, z2, z3, z4, z5, z6, z7])), (bq, aB E (cp) (ff)), (ip, .inr (3, [.ref ib, .int sz, .int pl])), (ib, aB E (1500) (f))]) (As := [.int y, .int x27, .int x37]) (rest := []) (Spl.at [0, 2, 3, 4] [1] rfl rfl rfl) 0 rfl rfl rfl rfl (Nat.le_of_ble_eq_true rfl) (by decide) (by omega) (by omega) (fun v w h => ?_)
    obtain ⟨rfl, bs40, bu40, ebs40, ebu40, rfl⟩ := h
    change G E g [(x, .inr (5, [.ref ip, z1, z2, z3, z4, z5, z6, z7])), (bq, aB E (cp) (ff)), (ip, .inr (3, [.ref ib, .int sz, .int pl])), (ib, aB E (1500) (f)), (h, .inr (2, [.int y, .int x27, .int x37, .ref bq, .int bs40, .int bu40]))] _ _ _ _ []
    refine g_iload_n C dX3_takeField_43 4 rfl ?_
    refine g_iconst C dX3_takeField_44 (by decide) (fun x44 e44 => ?_)
    refine g_iadd C dX3_takeField_45 (by omega) (fun x45 e45 => ?_)
    refine g_istore C dX3_takeField_46 (by rw [hN]; decide) (lv' := [(5, .int x45), (0, .ref x), (1, .ref h), (2, .int y), (3, .int z), (4, .int t)]) rfl ?_
    have loop48 : ∀ (nn : Nat) (n5 : Int32) (i1 : Int32) (i2 : Int32) (bq2 : Nat) (s2 : Int32) (u2 : Int32) (cn : Nat) (fn2 : Nat → Int32) (p0 : Nat) (k : Nat) (cN : Nat) (sN : Nat) (hm : la - (p0 + k) < nn) (hc : (tag ≤ 9 ∧ p0 = fr) ∨ (9 < tag ∧ p0 = fr + 2 ∧ i1.toInt = ((lk f P) fr : Int) ∧ i2.toInt = ((lk f P) (fr + 1) : Int))) (hk : p0 + k ≤ la) (hp : n5.toInt = ((p0 + k : Nat) : Int)) (hs2 : s2.toInt = (k : Int)) (hB2 : Bs fn2 0 (sl (lk f P) p0 k)) (hu2 : u2.toInt = (c31 (sl (lk f P) p0 k) : Int)) (hBF2 : BF fn2) (hkn : k ≤ cn) (hcn : (cn = cp ∧ cN = 0 ∧ sN = 0) ∨ (cp < cn ∧ cn ≤ 2 * k ∧ 16 * cN ≤ cn - cp ∧ sN = 2 * (cn - cp))), G E g [(x, .inr (5, [.ref ip, z1, z2, z3, z4, z5, z6, z7])), (ip, .inr (3, [.ref ib, .int sz, .int pl])), (ib, aB E (1500) (f)), (h, .inr (2, [.int y, .int i1, .int i2, .ref bq2, .int s2, .int u2])), (bq2, aB E (cn) (fn2))] cN sN 48 [(0, .ref x), (1, .ref h), (2, .int y), (3, .int z), (4, .int t), (5, .int n5)] [] := by
      intro nn
      induction nn with
      | zero => intro n5 i1 i2 bq2 s2 u2 cn fn2 p0 k cN sN hm hc hk hp hs2 hB2 hu2 hBF2 hkn hcn; omega
      | succ nn ih48 =>
        intro n5 i1 i2 bq2 s2 u2 cn fn2 p0 k cN sN hm hc hk hp hs2 hB2 hu2 hBF2 hkn hcn
        refine g_iload C dX3_takeField_48 5 rfl ?_
        refine g_iload C dX3_takeField_50 4 rfl ?_
        refine g_icmp_ge C 74 dX3_takeField_52 (by decide) (fun c52 => ?_) (fun c52 => ?_)
        · exact g_vret C F dX3_takeField_74 (by omega) (by omega) (by exact ⟨rfl, _, _, _, _, _, _, _, tk_FR hc (show p0 + k = la by omega) hy hs2 hB2 hu2 hkn, hBF2, by omega, by omega, rfl⟩)
        · refine g_aload_n C dX3_takeField_55 1 rfl ?_
          refine g_aload_n C dX3_takeField_56 0 rfl ?_
          refine gf_X3_10 C 0 rfl rfl dX3_takeField_57 ?_
          refine g_iload C dX3_takeField_60 5 rfl ?_
          refine g_callV C r mv_X3_169 dX3_takeField_62 (c_X1_at' g.l E ip ib f sz pl S P n5 (p0 + k) hS hP hPS hSm (by omega) (by omega)) (wr := [(x, .inr (5, [.ref ip, z1, z2, z3, z4, z5, z6, z7])), (h, .inr (2, [.int y, .int i1, .int i2, .ref bq2, .int s2, .int u2])), (bq2, aB E (cn) (fn2))]) (As := [.int n5]) (rest := [.ref h]) (Spl.at [0, 3, 4] [1, 2] rfl rfl rfl) 0 rfl rfl rfl rfl (Nat.le_of_ble_eq_true rfl) (by decide) (by omega) (by omega) (fun v w h => ?_)
          obtain ⟨x62, rfl, e62, rfl⟩ := h
          change G E g [(x, .inr (5, [.ref ip, z1, z2, z3, z4, z5, z6, z7])), (h, .inr (2, [.int y, .int i1, .int i2, .ref bq2, .int s2, .int u2])), (bq2, aB E (cn) (fn2)), (ip, .inr (3, [.ref ib, .int sz, .int pl])), (ib, aB E (1500) (f))] _ _ _ _ [.int x62, .ref h]
          by_cases hg : k < cn
          · refine g_callV C r mv_X3_133 dX3_takeField_65 (c_X0_append g.l E h bq2 cn fn2 y i1 i2 s2 u2 (sl (lk f P) p0 k) x62 (0) (0) (by rw [sl_len]; exact hs2) hB2 (sl_B8 hb8 _ _) (by rw [sl_len]; omega) (by omega) hBF2 (by omega) hu2 (by rw [sl_len]; omega)) (wr := [(x, .inr (5, [.ref ip, z1, z2, z3, z4, z5, z6, z7])), (ip, .inr (3, [.ref ib, .int sz, .int pl])), (ib, aB E (1500) (f))]) (As := [.int x62]) (rest := []) (Spl.at [0, 3, 4] [1, 2] rfl rfl rfl) 0 rfl rfl rfl rfl (Nat.le_of_ble_eq_true rfl) (by decide) (by omega) (by omega) (fun v w h => ?_)
            obtain ⟨rfl, aq, an, af, as, au, h1, h2, h3, h4, h5, rfl⟩ := h
            rw [sl_len] at h1 h4
            change G E g [(x, .inr (5, [.ref ip, z1, z2, z3, z4, z5, z6, z7])), (ip, .inr (3, [.ref ib, .int sz, .int pl])), (ib, aB E (1500) (f)), (h, .inr (2, [.int y, .int i1, .int i2, .ref aq, .int as, .int au])), (aq, aB E (an) (af))] _ _ _ _ []
            refine g_iinc C dX3_takeField_68 5 rfl (by rw [hN]; decide) (by decide) (by omega) (fun x68 e68 => ?_)
            refine g_lvE (lv' := [(5, .int x68), (0, .ref x), (1, .ref h), (2, .int y), (3, .int z), (4, .int t)]) rfl ?_
            refine g_goto C 48 dX3_takeField_71 (by decide) ?_
            refine g_lv [1, 2, 3, 4, 5, 0] (lv' := [(0, .ref x), (1, .ref h), (2, .int y), (3, .int z), (4, .int t), (5, .int x68)]) rfl ?_
            exact ih48 (x68) (i1) (i2) (aq) (as) (au) (an) (af) (p0) (k + 1) (cN) (sN) (by omega) (by exact hc) (by omega) (by omega) (by omega) (by rw [tk_sn e62 (hb8 _)]; exact h2) (by rw [tk_sn e62 (hb8 _)]; exact h5 (by have := hb8 (p0 + k); omega)) (by exact h3) (by omega) (by omega)
          · refine g_callV C r mv_X3_133 dX3_takeField_65 (c_X0_append g.l E h bq2 cn fn2 y i1 i2 s2 u2 (sl (lk f P) p0 k) x62 (1) (2 * cn) (by rw [sl_len]; exact hs2) hB2 (sl_B8 hb8 _ _) (by rw [sl_len]; omega) (by omega) hBF2 (by omega) hu2 (by rw [sl_len]; omega)) (wr := [(x, .inr (5, [.ref ip, z1, z2, z3, z4, z5, z6, z7])), (ip, .inr (3, [.ref ib, .int sz, .int pl])), (ib, aB E (1500) (f))]) (As := [.int x62]) (rest := []) (Spl.at [0, 3, 4] [1, 2] rfl rfl rfl) 0 rfl rfl rfl rfl (Nat.le_of_ble_eq_true rfl) (by decide) (by omega) (by omega) (fun v w h => ?_)
            obtain ⟨rfl, aq, an, af, as, au, h1, h2, h3, h4, h5, rfl⟩ := h
            rw [sl_len] at h1 h4
            change G E g [(x, .inr (5, [.ref ip, z1, z2, z3, z4, z5, z6, z7])), (ip, .inr (3, [.ref ib, .int sz, .int pl])), (ib, aB E (1500) (f)), (h, .inr (2, [.int y, .int i1, .int i2, .ref aq, .int as, .int au])), (aq, aB E (an) (af))] _ _ _ _ []
            refine g_iinc C dX3_takeField_68 5 rfl (by rw [hN]; decide) (by decide) (by omega) (fun x68 e68 => ?_)
            refine g_lvE (lv' := [(5, .int x68), (0, .ref x), (1, .ref h), (2, .int y), (3, .int z), (4, .int t)]) rfl ?_
            refine g_goto C 48 dX3_takeField_71 (by decide) ?_
            refine g_lv [1, 2, 3, 4, 5, 0] (lv' := [(0, .ref x), (1, .ref h), (2, .int y), (3, .int z), (4, .int t), (5, .int x68)]) rfl ?_
            exact ih48 (x68) (i1) (i2) (aq) (as) (au) (an) (af) (p0) (k + 1) (cN + 1) (sN + 2 * cn) (by omega) (by exact hc) (by omega) (by omega) (by omega) (by rw [tk_sn e62 (hb8 _)]; exact h2) (by rw [tk_sn e62 (hb8 _)]; exact h5 (by have := hb8 (p0 + k); omega)) (by exact h3) (by omega) (by omega)
    refine g_lv [1, 2, 3, 4, 5, 0] (lv' := [(0, .ref x), (1, .ref h), (2, .int y), (3, .int z), (4, .int t), (5, .int x45)]) rfl ?_
    refine g_perm [0, 2, 3, 4, 1] rfl (ws' := [(x, .inr (5, [.ref ip, z1, z2, z3, z4, z5, z6, z7])), (ip, .inr (3, [.ref ib, .int sz, .int pl])), (ib, aB E (1500) (f)), (h, .inr (2, [.int y, .int x27, .int x37, .ref bq, .int bs40, .int bu40])), (bq, aB E (cp) (ff))]) rfl ?_
    exact loop48 _ (x45) (x27) (x37) (bq) (bs40) (bu40) (cp) (ff) (fr + 2) (0) (0) (0) (Nat.lt_succ_self _) (by exact Or.inr ⟨by omega, rfl, e27, e37⟩) (by omega) (by omega) (by omega) (by exact Bs_nil _ _) (by rw [ebu40]; rfl) (by exact gB) (by omega) (by omega)
  · replace e4 := bl1 e4 c7
    refine g_aload_n C dX3_takeField_10 2 rfl ?_
    refine g_iload_n C dX3_takeField_11 3 rfl ?_
    refine g_iconst C dX3_takeField_12 (by decide) (fun x12 e12 => ?_)
    refine g_iconst C dX3_takeField_13 (by decide) (fun x13 e13 => ?_)
    refine g_callV C r mv_X3_120 dX3_takeField_14 (c_X0_begin g.l E h bq tg f1 f2 fs fu y x12 x13) (wr := [(x, .inr (5, [.ref ip, z1, z2, z3, z4, z5, z6, z7])), (ip, .inr (3, [.ref ib, .int sz, .int pl])), (ib, aB E (1500) (f)), (bq, aB E (cp) (ff))]) (As := [.int y, .int x12, .int x13]) (rest := []) (Spl.at [0, 1, 2, 4] [3] rfl rfl rfl) 0 rfl rfl rfl rfl (Nat.le_of_ble_eq_true rfl) (by decide) (by omega) (by omega) (fun v w h => ?_)
    obtain ⟨rfl, bs14, bu14, ebs14, ebu14, rfl⟩ := h
    change G E g [(x, .inr (5, [.ref ip, z1, z2, z3, z4, z5, z6, z7])), (ip, .inr (3, [.ref ib, .int sz, .int pl])), (ib, aB E (1500) (f)), (bq, aB E (cp) (ff)), (h, .inr (2, [.int y, .int x12, .int x13, .ref bq, .int bs14, .int bu14]))] _ _ _ _ []
    refine g_goto C 48 dX3_takeField_17 (by decide) ?_
    have loop48 : ∀ (nn : Nat) (n5 : Int32) (i1 : Int32) (i2 : Int32) (bq2 : Nat) (s2 : Int32) (u2 : Int32) (cn : Nat) (fn2 : Nat → Int32) (p0 : Nat) (k : Nat) (cN : Nat) (sN : Nat) (hm : la - (p0 + k) < nn) (hc : (tag ≤ 9 ∧ p0 = fr) ∨ (9 < tag ∧ p0 = fr + 2 ∧ i1.toInt = ((lk f P) fr : Int) ∧ i2.toInt = ((lk f P) (fr + 1) : Int))) (hk : p0 + k ≤ la) (hp : n5.toInt = ((p0 + k : Nat) : Int)) (hs2 : s2.toInt = (k : Int)) (hB2 : Bs fn2 0 (sl (lk f P) p0 k)) (hu2 : u2.toInt = (c31 (sl (lk f P) p0 k) : Int)) (hBF2 : BF fn2) (hkn : k ≤ cn) (hcn : (cn = cp ∧ cN = 0 ∧ sN = 0) ∨ (cp < cn ∧ cn ≤ 2 * k ∧ 16 * cN ≤ cn - cp ∧ sN = 2 * (cn - cp))), G E g [(x, .inr (5, [.ref ip, z1, z2, z3, z4, z5, z6, z7])), (ip, .inr (3, [.ref ib, .int sz, .int pl])), (ib, aB E (1500) (f)), (h, .inr (2, [.int y, .int i1, .int i2, .ref bq2, .int s2, .int u2])), (bq2, aB E (cn) (fn2))] cN sN 48 [(0, .ref x), (1, .ref h), (2, .int y), (3, .int z), (4, .int t), (5, .int n5)] [] := by
      intro nn
      induction nn with
      | zero => intro n5 i1 i2 bq2 s2 u2 cn fn2 p0 k cN sN hm hc hk hp hs2 hB2 hu2 hBF2 hkn hcn; omega
      | succ nn ih48 =>
        intro n5 i1 i2 bq2 s2 u2 cn fn2 p0 k cN sN hm hc hk hp hs2 hB2 hu2 hBF2 hkn hcn
        refine g_iload C dX3_takeField_48 5 rfl ?_
        refine g_iload C dX3_takeField_50 4 rfl ?_
        refine g_icmp_ge C 74 dX3_takeField_52 (by decide) (fun c52 => ?_) (fun c52 => ?_)
        · exact g_vret C F dX3_takeField_74 (by omega) (by omega) (by exact ⟨rfl, _, _, _, _, _, _, _, tk_FR hc (show p0 + k = la by omega) hy hs2 hB2 hu2 hkn, hBF2, by omega, by omega, rfl⟩)
        · refine g_aload_n C dX3_takeField_55 1 rfl ?_
          refine g_aload_n C dX3_takeField_56 0 rfl ?_
          refine gf_X3_10 C 0 rfl rfl dX3_takeField_57 ?_
          refine g_iload C dX3_takeField_60 5 rfl ?_
          refine g_callV C r mv_X3_169 dX3_takeField_62 (c_X1_at' g.l E ip ib f sz pl S P n5 (p0 + k) hS hP hPS hSm (by omega) (by omega)) (wr := [(x, .inr (5, [.ref ip, z1, z2, z3, z4, z5, z6, z7])), (h, .inr (2, [.int y, .int i1, .int i2, .ref bq2, .int s2, .int u2])), (bq2, aB E (cn) (fn2))]) (As := [.int n5]) (rest := [.ref h]) (Spl.at [0, 3, 4] [1, 2] rfl rfl rfl) 0 rfl rfl rfl rfl (Nat.le_of_ble_eq_true rfl) (by decide) (by omega) (by omega) (fun v w h => ?_)
          obtain ⟨x62, rfl, e62, rfl⟩ := h
          change G E g [(x, .inr (5, [.ref ip, z1, z2, z3, z4, z5, z6, z7])), (h, .inr (2, [.int y, .int i1, .int i2, .ref bq2, .int s2, .int u2])), (bq2, aB E (cn) (fn2)), (ip, .inr (3, [.ref ib, .int sz, .int pl])), (ib, aB E (1500) (f))] _ _ _ _ [.int x62, .ref h]
          by_cases hg : k < cn
          · refine g_callV C r mv_X3_133 dX3_takeField_65 (c_X0_append g.l E h bq2 cn fn2 y i1 i2 s2 u2 (sl (lk f P) p0 k) x62 (0) (0) (by rw [sl_len]; exact hs2) hB2 (sl_B8 hb8 _ _) (by rw [sl_len]; omega) (by omega) hBF2 (by omega) hu2 (by rw [sl_len]; omega)) (wr := [(x, .inr (5, [.ref ip, z1, z2, z3, z4, z5, z6, z7])), (ip, .inr (3, [.ref ib, .int sz, .int pl])), (ib, aB E (1500) (f))]) (As := [.int x62]) (rest := []) (Spl.at [0, 3, 4] [1, 2] rfl rfl rfl) 0 rfl rfl rfl rfl (Nat.le_of_ble_eq_true rfl) (by decide) (by omega) (by omega) (fun v w h => ?_)
            obtain ⟨rfl, aq, an, af, as, au, h1, h2, h3, h4, h5, rfl⟩ := h
            rw [sl_len] at h1 h4
            change G E g [(x, .inr (5, [.ref ip, z1, z2, z3, z4, z5, z6, z7])), (ip, .inr (3, [.ref ib, .int sz, .int pl])), (ib, aB E (1500) (f)), (h, .inr (2, [.int y, .int i1, .int i2, .ref aq, .int as, .int au])), (aq, aB E (an) (af))] _ _ _ _ []
            refine g_iinc C dX3_takeField_68 5 rfl (by rw [hN]; decide) (by decide) (by omega) (fun x68 e68 => ?_)
            refine g_lvE (lv' := [(5, .int x68), (0, .ref x), (1, .ref h), (2, .int y), (3, .int z), (4, .int t)]) rfl ?_
            refine g_goto C 48 dX3_takeField_71 (by decide) ?_
            refine g_lv [1, 2, 3, 4, 5, 0] (lv' := [(0, .ref x), (1, .ref h), (2, .int y), (3, .int z), (4, .int t), (5, .int x68)]) rfl ?_
            exact ih48 (x68) (i1) (i2) (aq) (as) (au) (an) (af) (p0) (k + 1) (cN) (sN) (by omega) (by exact hc) (by omega) (by omega) (by omega) (by rw [tk_sn e62 (hb8 _)]; exact h2) (by rw [tk_sn e62 (hb8 _)]; exact h5 (by have := hb8 (p0 + k); omega)) (by exact h3) (by omega) (by omega)
          · refine g_callV C r mv_X3_133 dX3_takeField_65 (c_X0_append g.l E h bq2 cn fn2 y i1 i2 s2 u2 (sl (lk f P) p0 k) x62 (1) (2 * cn) (by rw [sl_len]; exact hs2) hB2 (sl_B8 hb8 _ _) (by rw [sl_len]; omega) (by omega) hBF2 (by omega) hu2 (by rw [sl_len]; omega)) (wr := [(x, .inr (5, [.ref ip, z1, z2, z3, z4, z5, z6, z7])), (ip, .inr (3, [.ref ib, .int sz, .int pl])), (ib, aB E (1500) (f))]) (As := [.int x62]) (rest := []) (Spl.at [0, 3, 4] [1, 2] rfl rfl rfl) 0 rfl rfl rfl rfl (Nat.le_of_ble_eq_true rfl) (by decide) (by omega) (by omega) (fun v w h => ?_)
            obtain ⟨rfl, aq, an, af, as, au, h1, h2, h3, h4, h5, rfl⟩ := h
            rw [sl_len] at h1 h4
            change G E g [(x, .inr (5, [.ref ip, z1, z2, z3, z4, z5, z6, z7])), (ip, .inr (3, [.ref ib, .int sz, .int pl])), (ib, aB E (1500) (f)), (h, .inr (2, [.int y, .int i1, .int i2, .ref aq, .int as, .int au])), (aq, aB E (an) (af))] _ _ _ _ []
            refine g_iinc C dX3_takeField_68 5 rfl (by rw [hN]; decide) (by decide) (by omega) (fun x68 e68 => ?_)
            refine g_lvE (lv' := [(5, .int x68), (0, .ref x), (1, .ref h), (2, .int y), (3, .int z), (4, .int t)]) rfl ?_
            refine g_goto C 48 dX3_takeField_71 (by decide) ?_
            refine g_lv [1, 2, 3, 4, 5, 0] (lv' := [(0, .ref x), (1, .ref h), (2, .int y), (3, .int z), (4, .int t), (5, .int x68)]) rfl ?_
            exact ih48 (x68) (i1) (i2) (aq) (as) (au) (an) (af) (p0) (k + 1) (cN + 1) (sN + 2 * cn) (by omega) (by exact hc) (by omega) (by omega) (by omega) (by rw [tk_sn e62 (hb8 _)]; exact h2) (by rw [tk_sn e62 (hb8 _)]; exact h5 (by have := hb8 (p0 + k); omega)) (by exact h3) (by omega) (by omega)
    refine g_lv [1, 2, 3, 4, 5, 0] (lv' := [(0, .ref x), (1, .ref h), (2, .int y), (3, .int z), (4, .int t), (5, .int z)]) rfl ?_
    refine g_perm [0, 1, 2, 4, 3] rfl (ws' := [(x, .inr (5, [.ref ip, z1, z2, z3, z4, z5, z6, z7])), (ip, .inr (3, [.ref ib, .int sz, .int pl])), (ib, aB E (1500) (f)), (h, .inr (2, [.int y, .int x12, .int x13, .ref bq, .int bs14, .int bu14])), (bq, aB E (cp) (ff))]) rfl ?_
    exact loop48 _ (z) (x12) (x13) (bq) (bs14) (bu14) (cp) (ff) (fr) (0) (0) (0) (Nat.lt_succ_self _) (by exact Or.inl ⟨by omega, rfl⟩) (by omega) (by omega) (by omega) (by exact Bs_nil _ _) (by rw [ebu14]; rfl) (by exact gB) (by omega) (by omega)
