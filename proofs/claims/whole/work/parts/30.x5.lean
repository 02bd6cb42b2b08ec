set_option maxHeartbeats 3000000 in
set_option maxRecDepth 10000 in
theorem c_X3_takeRow (l : Launch) (E : GE) (x ip ib : Nat) (f : Nat → Int32) (sz pl : Int32) (S P : Nat) (fa ra : Nat) (ga : Nat → Option Nat) (fo : Nat → Nat) (fd : Nat → FV) (rf : Nat → Int32) (y z : Int32) (ro all : Nat) (z1 z2 z5 z6 z7 : Value) (hS : sz.toInt = (S : Int)) (hP : pl.toInt = (P : Int)) (hPS : P ≤ S) (hSm : S ≤ 1500) (hr : ro < 60) (hy : y.toInt = (ro : Int)) (hz : z.toInt = (rBase (lk f P) : Int)) (hrow : wRow (lk f P) (24 + 12 * ro) (rBase (lk f P)) all = -1) (hal : all ≤ S - P) (ha1 : 1 ≤ all) (hrb : 24 + 12 * ro + 12 ≤ S - P) (hga : ∀ j, j < 60 → ga j = some (fo j)) (hFG : FG fd) : Ctr l E yX3_takeRow cX3_takeRow 7 none 5 (all) (4 * all) [.ref x, .int y, .int z] ([(x, .inr (5, [.ref ip, z1, z2, .ref fa, .ref ra, z5, z6, z7])), (ip, .inr (3, [.ref ib, .int sz, .int pl])), (ib, aB E (1500) (f)), (fa, aF E (60) (ga)), (ra, aI E (180) (rf))] ++ zz E fo fd R60) (fun v w => v = none ∧ ∃ (fd2 : Nat → FV) (rf2 : Nat → Int32), TkR (lk f P) ro fd fd2 rf rf2 ∧ w = ([(x, .inr (5, [.ref ip, z1, z2, .ref fa, .ref ra, z5, z6, z7])), (ip, .inr (3, [.ref ib, .int sz, .int pl])), (ib, aB E (1500) (f)), (fa, aF E (60) (ga)), (ra, aI E (180) (rf2))] ++ zz E fo fd2 R60)) := by
  refine Ctr.intro (by decide) (Nat.le_of_ble_eq_true rfl) (fun g hgl hN C r F hi => ?_)
  subst hgl
  have hb8 := lk_lt f P
  obtain ⟨w1, w2, w3, w4, w5⟩ := wRow_ok hrow
  have hLn : (rLen (lk f P) ro : Int) = numI (lk f P) (24 + 12 * ro + 3) 4 := by unfold rLen; omega
  have hSt : (rSt (lk f P) ro : Int) = numI (lk f P) (24 + 12 * ro + 7) 5 := by unfold rSt; omega
  have hTg : (rTag (lk f P) ro : Int) = numI (lk f P) (24 + 12 * ro) 3 := by unfold rTag; omega
  change G E g ([(x, .inr (5, [.ref ip, z1, z2, .ref fa, .ref ra, z5, z6, z7])), (ip, .inr (3, [.ref ib, .int sz, .int pl])), (ib, aB E (1500) (f)), (fa, aF E (60) (ga)), (ra, aI E (180) (rf))] ++ zz E fo fd R60) 0 0 0 [(0, .ref x), (1, .int y), (2, .int z)] []
  refine g_bipush C dX3_takeRow_0 (by decide) (fun x0 e0 => ?_)
  refine g_bipush C dX3_takeRow_2 (by decide) (fun x2 e2 => ?_)
  refine g_iload_n C dX3_takeRow_4 1 rfl ?_
  refine g_imul C dX3_takeRow_5 (12 * y.toInt) (by rw [e2]) (by omega) (fun x5 e5 => ?_)
  refine g_iadd C dX3_takeRow_6 (by omega) (fun x6 e6 => ?_)
  refine g_istore_n C dX3_takeRow_7 (by rw [hN]; decide) (lv' := [(3, .int x6), (0, .ref x), (1, .int y), (2, .int z)]) rfl ?_
  refine g_aload_n C dX3_takeRow_8 1 rfl ?_
  refine gf_X3_10 C 0 rfl rfl dX3_takeRow_9 ?_
  refine g_iload_n C dX3_takeRow_12 0 rfl ?_
  refine g_iconst C dX3_takeRow_13 (by decide) (fun x13 e13 => ?_)
  refine g_callV C r mv_X3_64 dX3_takeRow_14 (c_X1_number g.l E ip ib f sz pl S P x6 x13 (24 + 12 * ro) 3 hS hP hPS hSm (by omega) (by omega) (by decide) (by omega)) (wr := ([(x, .inr (5, [.ref ip, z1, z2, .ref fa, .ref ra, z5, z6, z7])), (fa, aF E (60) (ga)), (ra, aI E (180) (rf))] ++ zz E fo fd R60)) (As := [.int x6, .int x13]) (rest := []) (Spl.atZ [0, 3, 4] [1, 2] rfl rfl rfl) 0 rfl rfl rfl rfl (Nat.le_of_ble_eq_true rfl) (by decide) (by omega) (by omega) (fun v w h => ?_)
  obtain ⟨x14, rfl, e14, rfl⟩ := h
  refine g_tail ?_
  change G E g ([(x, .inr (5, [.ref ip, z1, z2, .ref fa, .ref ra, z5, z6, z7])), (fa, aF E (60) (ga)), (ra, aI E (180) (rf)), (ip, .inr (3, [.ref ib, .int sz, .int pl])), (ib, aB E (1500) (f))] ++ zz E fo fd R60) _ _ _ _ [.int x14]
  refine g_istore C dX3_takeRow_17 (by rw [hN]; decide) (lv' := [(4, .int x14), (3, .int x6), (0, .ref x), (1, .int y), (2, .int z)]) rfl ?_
  refine g_aload_n C dX3_takeRow_19 2 rfl ?_
  refine gf_X3_10 C 0 rfl rfl dX3_takeRow_20 ?_
  refine g_iload_n C dX3_takeRow_23 1 rfl ?_
  refine g_iconst C dX3_takeRow_24 (by decide) (fun x24 e24 => ?_)
  refine g_iadd C dX3_takeRow_25 (by omega) (fun x25 e25 => ?_)
  refine g_iconst C dX3_takeRow_26 (by decide) (fun x26 e26 => ?_)
  refine g_callV C r mv_X3_64 dX3_takeRow_27 (c_X1_number g.l E ip ib f sz pl S P x25 x26 (24 + 12 * ro + 3) 4 hS hP hPS hSm (by omega) (by omega) (by decide) (by omega)) (wr := ([(x, .inr (5, [.ref ip, z1, z2, .ref fa, .ref ra, z5, z6, z7])), (fa, aF E (60) (ga)), (ra, aI E (180) (rf))] ++ zz E fo fd R60)) (As := [.int x25, .int x26]) (rest := []) (Spl.atZ [0, 1, 2] [3, 4] rfl rfl rfl) 0 rfl rfl rfl rfl (Nat.le_of_ble_eq_true rfl) (by decide) (by omega) (by omega) (fun v w h => ?_)
  obtain ⟨x27, rfl, e27, rfl⟩ := h
  refine g_tail ?_
  change G E g ([(x, .inr (5, [.ref ip, z1, z2, .ref fa, .ref ra, z5, z6, z7])), (fa, aF E (60) (ga)), (ra, aI E (180) (rf)), (ip, .inr (3, [.ref ib, .int sz, .int pl])), (ib, aB E (1500) (f))] ++ zz E fo fd R60) _ _ _ _ [.int x27]
  refine g_istore C dX3_takeRow_30 (by rw [hN]; decide) (lv' := [(5, .int x27), (4, .int x14), (3, .int x6), (0, .ref x), (1, .int y), (2, .int z)]) rfl ?_
  refine g_aload_n C dX3_takeRow_32 3 rfl ?_
  refine gf_X3_10 C 0 rfl rfl dX3_takeRow_33 ?_
  refine g_iload_n C dX3_takeRow_36 2 rfl ?_
  refine g_bipush C dX3_takeRow_37 (by decide) (fun x37 e37 => ?_)
  refine g_iadd C dX3_takeRow_39 (by omega) (fun x39 e39 => ?_)
  refine g_iconst C dX3_takeRow_40 (by decide) (fun x40 e40 => ?_)
  refine g_callV C r mv_X3_64 dX3_takeRow_41 (c_X1_number g.l E ip ib f sz pl S P x39 x40 (24 + 12 * ro + 7) 5 hS hP hPS hSm (by omega) (by omega) (by decide) (by omega)) (wr := ([(x, .inr (5, [.ref ip, z1, z2, .ref fa, .ref ra, z5, z6, z7])), (fa, aF E (60) (ga)), (ra, aI E (180) (rf))] ++ zz E fo fd R60)) (As := [.int x39, .int x40]) (rest := []) (Spl.atZ [0, 1, 2] [3, 4] rfl rfl rfl) 0 rfl rfl rfl rfl (Nat.le_of_ble_eq_true rfl) (by decide) (by omega) (by omega) (fun v w h => ?_)
  obtain ⟨x41, rfl, e41, rfl⟩ := h
  refine g_tail ?_
  change G E g ([(x, .inr (5, [.ref ip, z1, z2, .ref fa, .ref ra, z5, z6, z7])), (fa, aF E (60) (ga)), (ra, aI E (180) (rf)), (ip, .inr (3, [.ref ib, .int sz, .int pl])), (ib, aB E (1500) (f))] ++ zz E fo fd R60) _ _ _ _ [.int x41]
  refine g_istore C dX3_takeRow_44 (by rw [hN]; decide) (lv' := [(6, .int x41), (5, .int x27), (4, .int x14), (3, .int x6), (0, .ref x), (1, .int y), (2, .int z)]) rfl ?_
  refine g_aload_n C dX3_takeRow_46 4 rfl ?_
  refine gf_X3_34 C 0 rfl rfl dX3_takeRow_47 ?_
  refine g_iload_n C dX3_takeRow_50 5 rfl ?_
  refine g_iconst C dX3_takeRow_51 (by decide) (fun x51 e51 => ?_)
  refine g_imul C dX3_takeRow_52 (y.toInt * 3) (by rw [e51]) (by omega) (fun x52 e52 => ?_)
  refine g_iload C dX3_takeRow_53 2 rfl ?_
  refine g_iastore C 2 rfl dX3_takeRow_55 (3 * ro) (by omega) (by omega) ?_
  change G E g ([(x, .inr (5, [.ref ip, z1, z2, .ref fa, .ref ra, z5, z6, z7])), (fa, aF E (60) (ga)), (ra, aI E (180) (upd (rf) (3 * ro) x14)), (ip, .inr (3, [.ref ib, .int sz, .int pl])), (ib, aB E (1500) (f))] ++ zz E fo fd R60) _ _ _ _ _
  refine g_aload_n C dX3_takeRow_56 4 rfl ?_
  refine gf_X3_34 C 0 rfl rfl dX3_takeRow_57 ?_
  refine g_iload_n C dX3_takeRow_60 5 rfl ?_
  refine g_iconst C dX3_takeRow_61 (by decide) (fun x61 e61 => ?_)
  refine g_imul C dX3_takeRow_62 (y.toInt * 3) (by rw [e61]) (by omega) (fun x62 e62 => ?_)
  refine g_iconst C dX3_takeRow_63 (by decide) (fun x63 e63 => ?_)
  refine g_iadd C dX3_takeRow_64 (by omega) (fun x64 e64 => ?_)
  refine g_iload C dX3_takeRow_65 1 rfl ?_
  refine g_iastore C 2 rfl dX3_takeRow_67 (3 * ro + 1) (by omega) (by omega) ?_
  change G E g ([(x, .inr (5, [.ref ip, z1, z2, .ref fa, .ref ra, z5, z6, z7])), (fa, aF E (60) (ga)), (ra, aI E (180) (upd (upd (rf) (3 * ro) x14) (3 * ro + 1) x27)), (ip, .inr (3, [.ref ib, .int sz, .int pl])), (ib, aB E (1500) (f))] ++ zz E fo fd R60) _ _ _ _ _
  refine g_aload_n C dX3_takeRow_68 4 rfl ?_
  refine gf_X3_34 C 0 rfl rfl dX3_takeRow_69 ?_
  refine g_iload_n C dX3_takeRow_72 5 rfl ?_
  refine g_iconst C dX3_takeRow_73 (by decide) (fun x73 e73 => ?_)
  refine g_imul C dX3_takeRow_74 (y.toInt * 3) (by rw [e73]) (by omega) (fun x74 e74 => ?_)
  refine g_iconst C dX3_takeRow_75 (by decide) (fun x75 e75 => ?_)
  refine g_iadd C dX3_takeRow_76 (by omega) (fun x76 e76 => ?_)
  refine g_iload C dX3_takeRow_77 0 rfl ?_
  refine g_iastore C 2 rfl dX3_takeRow_79 (3 * ro + 2) (by omega) (by omega) ?_
  change G E g ([(x, .inr (5, [.ref ip, z1, z2, .ref fa, .ref ra, z5, z6, z7])), (fa, aF E (60) (ga)), (ra, aI E (180) (upd (upd (upd (rf) (3 * ro) x14) (3 * ro + 1) x27) (3 * ro + 2) x41)), (ip, .inr (3, [.ref ib, .int sz, .int pl])), (ib, aB E (1500) (f))] ++ zz E fo fd R60) _ _ _ _ _
  refine g_aload_n C dX3_takeRow_80 4 rfl ?_
  refine g_aload_n C dX3_takeRow_81 4 rfl ?_
  refine gf_X3_29 C 0 rfl rfl dX3_takeRow_82 ?_
  refine g_iload_n C dX3_takeRow_85 5 rfl ?_
  refine g_aaload C 1 rfl dX3_takeRow_86 (ro) (by omega) (by omega) (r := (fo (ro))) (hga _ (by omega)) ?_
  refine g_iload C dX3_takeRow_87 2 rfl ?_
  refine g_iload_n C dX3_takeRow_89 6 rfl ?_
  refine g_iload C dX3_takeRow_90 0 rfl ?_
  refine g_iadd C dX3_takeRow_92 (by omega) (fun x92 e92 => ?_)
  refine g_iload_n C dX3_takeRow_93 6 rfl ?_
  refine g_iload C dX3_takeRow_94 0 rfl ?_
  refine g_iadd C dX3_takeRow_96 (by omega) (fun x96 e96 => ?_)
  refine g_iload C dX3_takeRow_97 1 rfl ?_
  refine g_iadd C dX3_takeRow_99 (by omega) (fun x99 e99 => ?_)
  refine g_iconst C dX3_takeRow_100 (by decide) (fun x100 e100 => ?_)
  refine g_isub C dX3_takeRow_101 (by omega) (fun x101 e101 => ?_)
  rcases hfdq : fd (ro) with ⟨tgq, f1q, f2q, szq, suq, bqq, cpq, ffq⟩
  obtain ⟨gBq, gCq, gDq⟩ := FG_at hFG (i := ro) (by omega) hfdq
  refine g_focus (X := [(x, .inr (5, [.ref ip, z1, z2, .ref fa, .ref ra, z5, z6, z7])), (fa, aF E (60) (ga)), (ra, aI E (180) (upd (upd (upd (rf) (3 * ro) x14) (3 * ro + 1) x27) (3 * ro + 2) x41)), (ip, .inr (3, [.ref ib, .int sz, .int pl])), (ib, aB E (1500) (f))]) (ro) (by omega) hfdq ?_
  change G E g ([(x, .inr (5, [.ref ip, z1, z2, .ref fa, .ref ra, z5, z6, z7])), (fa, aF E (60) (ga)), (ra, aI E (180) (upd (upd (upd (rf) (3 * ro) x14) (3 * ro + 1) x27) (3 * ro + 2) x41)), (ip, .inr (3, [.ref ib, .int sz, .int pl])), (ib, aB E (1500) (f)), ((fo (ro)), .inr (2, [.int tgq, .int f1q, .int f2q, .ref bqq, .int szq, .int suq])), (bqq, aB E (cpq) (ffq))] ++ zz E fo fd (R60.erase (ro))) _ _ _ _ _
  refine g_callV C r mv_X3_178 dX3_takeRow_102 (c_X3_takeField g.l E x ip ib f sz pl S P (fo (ro)) bqq cpq ffq tgq f1q f2q szq suq x14 x92 x101 (rTag (lk f P) ro) (rBase (lk f P) + rSt (lk f P) ro) (rBase (lk f P) + rSt (lk f P) ro + rLen (lk f P) ro - 1) (z1) (z2) (.ref fa) (.ref ra) (z5) (z6) (z7) hS hP hPS hSm (by omega) (by omega) (by omega) (by omega) (by omega) (by omega) gBq gCq gDq) (wr := ([(fa, aF E (60) (ga)), (ra, aI E (180) (upd (upd (upd (rf) (3 * ro) x14) (3 * ro + 1) x27) (3 * ro + 2) x41))] ++ zz E fo fd (R60.erase (ro)))) (As := [.ref (fo (ro)), .int x14, .int x92, .int x101]) (rest := []) (Spl.atZ [1, 2] [0, 3, 4, 5, 6] rfl rfl rfl) 0 rfl rfl rfl rfl (Nat.le_of_ble_eq_true rfl) (by decide) (by omega) (by omega) (fun v w h => ?_)
  obtain ⟨rfl, aq, an, af, i1, i2, as, au, hFR, hB3, hn1, hn2, rfl⟩ := h
  refine g_tail ?_
  change G E g ([(fa, aF E (60) (ga)), (ra, aI E (180) (upd (upd (upd (rf) (3 * ro) x14) (3 * ro + 1) x27) (3 * ro + 2) x41)), (x, .inr (5, [.ref ip, z1, z2, .ref fa, .ref ra, z5, z6, z7])), (ip, .inr (3, [.ref ib, .int sz, .int pl])), (ib, aB E (1500) (f)), ((fo (ro)), .inr (2, [.int x14, .int i1, .int i2, .ref aq, .int as, .int au])), (aq, aB E (an) (af))] ++ zz E fo fd (R60.erase (ro))) _ _ _ _ []
  refine g_unfocus (X := [(fa, aF E (60) (ga)), (ra, aI E (180) (upd (upd (upd (rf) (3 * ro) x14) (3 * ro + 1) x27) (3 * ro + 2) x41)), (x, .inr (5, [.ref ip, z1, z2, .ref fa, .ref ra, z5, z6, z7])), (ip, .inr (3, [.ref ib, .int sz, .int pl])), (ib, aB E (1500) (f))]) (ro) (by omega) ?_
  change G E g ([(fa, aF E (60) (ga)), (ra, aI E (180) (upd (upd (upd (rf) (3 * ro) x14) (3 * ro + 1) x27) (3 * ro + 2) x41)), (x, .inr (5, [.ref ip, z1, z2, .ref fa, .ref ra, z5, z6, z7])), (ip, .inr (3, [.ref ib, .int sz, .int pl])), (ib, aB E (1500) (f))] ++ zz E fo (va_up fd (ro) (x14, i1, i2, as, au, aq, an, af)) R60) _ _ _ _ _
  refine g_permZ [2, 3, 4, 0, 1] rfl (ws' := [(x, .inr (5, [.ref ip, z1, z2, .ref fa, .ref ra, z5, z6, z7])), (ip, .inr (3, [.ref ib, .int sz, .int pl])), (ib, aB E (1500) (f)), (fa, aF E (60) (ga)), (ra, aI E (180) (upd (upd (upd (rf) (3 * ro) x14) (3 * ro + 1) x27) (3 * ro + 2) x41))]) rfl rfl ?_
  exact g_vret C F dX3_takeRow_105 (by omega) (by omega) (by exact ⟨rfl, _, _, TkR_of hFR (FG_up hFG hB3 hn1 hn2) (by omega) (by omega) (by omega), rfl⟩)
set_option maxHeartbeats 4000000 in
set_option maxRecDepth 10000 in
theorem c_X3_takeRecord (l : Launch) (E : GE) (x ip ib : Nat) (f : Nat → Int32) (sz pl : Int32) (S P : Nat) (lb fa ra : Nat) (ga : Nat → Option Nat) (fo : Nat → Nat) (fd : Nat → FV) (lf rf : Nat → Int32) (rc pr fc : Int32) (all : Nat) (z1 : Value) (hS : sz.toInt = (S : Int)) (hP : pl.toInt = (P : Int)) (hPS : P ≤ S) (hSm : S ≤ 1500) (hal : all ≤ S - P) (h26 : 26 ≤ all) (hrec : wRec (lk f P) all = -1) (hBF : BF f) (hga : ∀ j, j < 60 → ga j = some (fo j)) (hFG : FG fd) : Ctr l E yX3_takeRecord cX3_takeRecord 3 none 6 (60 * all) (240 * all) [.ref x] ([(x, .inr (5, [.ref ip, z1, .ref lb, .ref fa, .ref ra, .int rc, .int pr, .int fc])), (ip, .inr (3, [.ref ib, .int sz, .int pl])), (ib, aB E (1500) (f)), (lb, aB E (24) (lf)), (fa, aF E (60) (ga)), (ra, aI E (180) (rf))] ++ zz E fo fd R60) (fun v w => v = none ∧ ∃ (rc2 pr2 fc2 : Int32) (lf2 rf2 : Nat → Int32) (fd2 : Nat → FV), rc2.toInt = (rCnt (lk f P) : Int) ∧ pr2.toInt = 1 ∧ fc2.toInt = (rCnt (lk f P) : Int) ∧ (∀ j, j < 24 → lf2 j = f (P + j)) ∧ XF fd2 (rdF (lk f P) (rCnt (lk f P))) ∧ FG fd2 ∧ RW (lk f P) rf2 (rCnt (lk f P)) ∧ w = ([(x, .inr (5, [.ref ip, z1, .ref lb, .ref fa, .ref ra, .int rc2, .int pr2, .int fc2])), (ip, .inr (3, [.ref ib, .int sz, .int pl])), (ib, aB E (1500) (f)), (lb, aB E (24) (lf2)), (fa, aF E (60) (ga)), (ra, aI E (180) (rf2))] ++ zz E fo fd2 R60)) := by
  refine Ctr.intro (by decide) (Nat.le_of_ble_eq_true rfl) (fun g hgl hN C r F hi => ?_)
  subst hgl
  have hb8 := lk_lt f P
  obtain ⟨hnd, hok, hrows⟩ := wRec_ok h26 hrec
  have hcn : (rCnt (lk f P) : Int) = (numI (lk f P) 12 5 - 25) / 12 := by unfold rCnt; omega
  have hc60 : rCnt (lk f P) ≤ 60 := by omega
  have hbn : (rBase (lk f P) : Int) = numI (lk f P) 12 5 := by unfold rBase; omega
  change G E g ([(x, .inr (5, [.ref ip, z1, .ref lb, .ref fa, .ref ra, .int rc, .int pr, .int fc])), (ip, .inr (3, [.ref ib, .int sz, .int pl])), (ib, aB E (1500) (f)), (lb, aB E (24) (lf)), (fa, aF E (60) (ga)), (ra, aI E (180) (rf))] ++ zz E fo fd R60) 0 0 0 [(0, .ref x)] []
  refine g_iconst C dX3_takeRecord_0 (by decide) (fun x0 e0 => ?_)
  refine g_istore_n C dX3_takeRecord_1 (by rw [hN]; decide) (lv' := [(1, .int x0), (0, .ref x)]) rfl ?_
  have loop2 : ∀ (nn : Nat) (n1 : Int32) (lk2 : Nat → Int32) (k : Nat) (hm : 24 - k < nn) (hk : k ≤ 24) (hp : n1.toInt = (k : Int)) (hl : ∀ j, j < k → lk2 j = f (P + j)), G E g ([(x, .inr (5, [.ref ip, z1, .ref lb, .ref fa, .ref ra, .int rc, .int pr, .int fc])), (ip, .inr (3, [.ref ib, .int sz, .int pl])), (ib, aB E (1500) (f)), (lb, aB E (24) (lk2)), (fa, aF E (60) (ga)), (ra, aI E (180) (rf))] ++ zz E fo fd R60) 0 0 2 [(0, .ref x), (1, .int n1)] [] := by
    intro nn
    induction nn with
    | zero => intro n1 lk2 k hm hk hp hl; omega
    | succ nn ih2 =>
      intro n1 lk2 k hm hk hp hl
      refine g_iload_n C dX3_takeRecord_2 1 rfl ?_
      refine g_bipush C dX3_takeRecord_3 (by decide) (fun x3 e3 => ?_)
      refine g_icmp_ge C 29 dX3_takeRecord_5 (by decide) (fun c5 => ?_) (fun c5 => ?_)
      · clear e0
        refine g_aload_n C dX3_takeRecord_29 0 rfl ?_
        refine gf_X3_10 C 0 rfl rfl dX3_takeRecord_30 ?_
        refine g_bipush C dX3_takeRecord_33 (by decide) (fun x33 e33 => ?_)
        refine g_iconst C dX3_takeRecord_35 (by decide) (fun x35 e35 => ?_)
        refine g_callV C r mv_X3_64 dX3_takeRecord_36 (c_X1_number g.l E ip ib f sz pl S P x33 x35 (12) 5 hS hP hPS hSm (by omega) (by omega) (by decide) (by omega)) (wr := ([(x, .inr (5, [.ref ip, z1, .ref lb, .ref fa, .ref ra, .int rc, .int pr, .int fc])), (lb, aB E (24) (lk2)), (fa, aF E (60) (ga)), (ra, aI E (180) (rf))] ++ zz E fo fd R60)) (As := [.int x33, .int x35]) (rest := []) (Spl.atZ [0, 3, 4, 5] [1, 2] rfl rfl rfl) 0 rfl rfl rfl rfl (Nat.le_of_ble_eq_true rfl) (by decide) (by omega) (by omega) (fun v w h => ?_)
        obtain ⟨x36, rfl, e36, rfl⟩ := h
        refine g_tail ?_
        change G E g ([(x, .inr (5, [.ref ip, z1, .ref lb, .ref fa, .ref ra, .int rc, .int pr, .int fc])), (lb, aB E (24) (lk2)), (fa, aF E (60) (ga)), (ra, aI E (180) (rf)), (ip, .inr (3, [.ref ib, .int sz, .int pl])), (ib, aB E (1500) (f))] ++ zz E fo fd R60) _ _ _ _ [.int x36]
        refine g_istore_n C dX3_takeRecord_39 (by rw [hN]; decide) (lv' := [(1, .int x36), (0, .ref x)]) rfl ?_
        refine g_aload_n C dX3_takeRecord_40 1 rfl ?_
        refine g_iload_n C dX3_takeRecord_41 0 rfl ?_
        refine g_bipush C dX3_takeRecord_42 (by decide) (fun x42 e42 => ?_)
        refine g_isub C dX3_takeRecord_44 (by omega) (fun x44 e44 => ?_)
        refine g_bipush C dX3_takeRecord_45 (by decide) (fun x45 e45 => ?_)
        refine g_idiv C dX3_takeRecord_47 (12) (e45) (by omega) (fun x47 e47 => ?_)
        refine g_bipush C dX3_takeRecord_48 (by decide) (fun x48 e48 => ?_)
        refine g_mmin C r (by decide) kw_minX3 dX3_takeRecord_50 (Nat.le_of_ble_eq_true rfl) (by omega) (by omega) (fun x50 e50 => ?_)
        have hx50 : x50.toInt = (rCnt (lk f P) : Int) := by omega
        obtain rfl : k = 24 := by omega
        clear hk hp hm ih2
        refine gp_X3_38 C 0 rfl (Nat.le_of_ble_eq_true rfl) rfl rfl dX3_takeRecord_53 ?_
        change G E g ([(x, .inr (5, [.ref ip, z1, .ref lb, .ref fa, .ref ra, .int x50, .int pr, .int fc])), (lb, aB E (24) (lk2)), (fa, aF E (60) (ga)), (ra, aI E (180) (rf)), (ip, .inr (3, [.ref ib, .int sz, .int pl])), (ib, aB E (1500) (f))] ++ zz E fo fd R60) _ _ _ _ _
        refine g_iconst C dX3_takeRecord_56 (by decide) (fun x56 e56 => ?_)
        refine g_istore_n C dX3_takeRecord_57 (by rw [hN]; decide) (lv' := [(2, .int x56), (1, .int x36), (0, .ref x)]) rfl ?_
        have loop58 : ∀ (nn : Nat) (n2 : Int32) (rk : Nat → Int32) (fk : Nat → FV) (ro : Nat) (cN : Nat) (sN : Nat) (hm : rCnt (lk f P) - ro < nn) (hr : ro ≤ rCnt (lk f P)) (hp2 : n2.toInt = (ro : Int)) (hXk : XF fk (rdF (lk f P) ro)) (hGk : FG fk) (hRk : RW (lk f P) rk ro) (hcN : cN = ro * all) (hsN : sN = 4 * (ro * all)), G E g ([(x, .inr (5, [.ref ip, z1, .ref lb, .ref fa, .ref ra, .int x50, .int pr, .int fc])), (ip, .inr (3, [.ref ib, .int sz, .int pl])), (ib, aB E (1500) (f)), (lb, aB E (24) (lk2)), (fa, aF E (60) (ga)), (ra, aI E (180) (rk))] ++ zz E fo fk R60) cN sN 58 [(0, .ref x), (1, .int x36), (2, .int n2)] [] := by
          intro nn
          induction nn with
          | zero => intro n2 rk fk ro cN sN hm hr hp2 hXk hGk hRk hcN hsN; omega
          | succ nn ih58 =>
            intro n2 rk fk ro cN sN hm hr hp2 hXk hGk hRk hcN hsN
            have hmul := Nat.succ_mul ro all
            rw [Nat.succ_eq_add_one] at hmul
            have hmle : ro < rCnt (lk f P) → (ro + 1) * all ≤ 60 * all := fun h => Nat.mul_le_mul_right all (by omega)
            have hmle2 : ro * all ≤ 60 * all := Nat.mul_le_mul_right all (by omega)
            refine g_iload_n C dX3_takeRecord_58 2 rfl ?_
            refine g_aload_n C dX3_takeRecord_59 0 rfl ?_
            refine gf_X3_38 C 0 rfl rfl dX3_takeRecord_60 ?_
            refine g_icmp_ge C 78 dX3_takeRecord_63 (by decide) (fun c63 => ?_) (fun c63 => ?_)
            · refine g_aload_n C dX3_takeRecord_78 0 rfl ?_
              refine g_aload_n C dX3_takeRecord_79 0 rfl ?_
              refine gf_X3_38 C 0 rfl rfl dX3_takeRecord_80 ?_
              refine gp_X3_46 C 0 rfl (Nat.le_of_ble_eq_true rfl) rfl rfl dX3_takeRecord_83 ?_
              change G E g ([(x, .inr (5, [.ref ip, z1, .ref lb, .ref fa, .ref ra, .int x50, .int pr, .int x50])), (ip, .inr (3, [.ref ib, .int sz, .int pl])), (ib, aB E (1500) (f)), (lb, aB E (24) (lk2)), (fa, aF E (60) (ga)), (ra, aI E (180) (rk))] ++ zz E fo fk R60) _ _ _ _ _
              refine g_aload_n C dX3_takeRecord_86 0 rfl ?_
              refine g_iconst C dX3_takeRecord_87 (by decide) (fun x87 e87 => ?_)
              refine gp_X3_42 C 0 rfl (Nat.le_of_ble_eq_true rfl) (nz_b x87 (by omega)) (fz_b x87 (by omega)) dX3_takeRecord_88 ?_
              change G E g ([(x, .inr (5, [.ref ip, z1, .ref lb, .ref fa, .ref ra, .int x50, .int x87, .int x50])), (ip, .inr (3, [.ref ib, .int sz, .int pl])), (ib, aB E (1500) (f)), (lb, aB E (24) (lk2)), (fa, aF E (60) (ga)), (ra, aI E (180) (rk))] ++ zz E fo fk R60) _ _ _ _ _
              exact g_vret C F dX3_takeRecord_91 (by omega) (by omega) (by have hr9 : ro = rCnt (lk f P) := (by omega); subst hr9; exact ⟨rfl, _, _, _, _, _, _, hx50, by omega, hx50, hl, hXk, hGk, hRk, rfl⟩)
            · refine g_aload_n C dX3_takeRecord_66 0 rfl ?_
              refine g_iload_n C dX3_takeRecord_67 2 rfl ?_
              refine g_iload_n C dX3_takeRecord_68 1 rfl ?_
              refine g_callV C r mv_X3_175 dX3_takeRecord_69 (c_X3_takeRow g.l E x ip ib f sz pl S P fa ra ga fo fk rk n2 x36 ro all (z1) (.ref lb) (.int x50) (.int pr) (.int fc) hS hP hPS hSm (by omega) (by omega) (by omega) (hrows ro (by omega)) hal (by omega) (by omega) hga hGk) (wr := [(lb, aB E (24) (lk2))]) (As := [.int n2, .int x36]) (rest := []) (Spl.atP [3] [0, 1, 2, 4, 5] rfl rfl rfl) 0 rfl rfl rfl rfl (Nat.le_of_ble_eq_true rfl) (by decide) (by omega) (by omega) (fun v w h => ?_)
              obtain ⟨rfl, fk2, rk2, hT, rfl⟩ := h
              change G E g ([(lb, aB E (24) (lk2)), (x, .inr (5, [.ref ip, z1, .ref lb, .ref fa, .ref ra, .int x50, .int pr, .int fc])), (ip, .inr (3, [.ref ib, .int sz, .int pl])), (ib, aB E (1500) (f)), (fa, aF E (60) (ga)), (ra, aI E (180) (rk2))] ++ zz E fo fk2 R60) _ _ _ _ []
              refine g_iinc C dX3_takeRecord_72 2 rfl (by rw [hN]; decide) (by decide) (by omega) (fun x72 e72 => ?_)
              refine g_lvE (lv' := [(2, .int x72), (0, .ref x), (1, .int x36)]) rfl ?_
              refine g_goto C 58 dX3_takeRecord_75 (by decide) ?_
              refine g_lv [1, 2, 0] (lv' := [(0, .ref x), (1, .int x36), (2, .int x72)]) rfl ?_
              refine g_permZ [1, 2, 3, 0, 4, 5] rfl (ws' := [(x, .inr (5, [.ref ip, z1, .ref lb, .ref fa, .ref ra, .int x50, .int pr, .int fc])), (ip, .inr (3, [.ref ib, .int sz, .int pl])), (ib, aB E (1500) (f)), (lb, aB E (24) (lk2)), (fa, aF E (60) (ga)), (ra, aI E (180) (rk2))]) rfl rfl ?_
              exact ih58 (x72) (rk2) (fk2) (ro + 1) (cN + all) (sN + 4 * all) (by omega) (by omega) (by omega) (by exact XF_TkR hXk hT) (by exact hT.2.2.1) (by exact RW_TkR hRk hT) (by omega) (by omega)
        refine g_lv [2, 1, 0] (lv' := [(0, .ref x), (1, .int x36), (2, .int x56)]) rfl ?_
        refine g_permZ [0, 4, 5, 1, 2, 3] rfl (ws' := [(x, .inr (5, [.ref ip, z1, .ref lb, .ref fa, .ref ra, .int x50, .int pr, .int fc])), (ip, .inr (3, [.ref ib, .int sz, .int pl])), (ib, aB E (1500) (f)), (lb, aB E (24) (lk2)), (fa, aF E (60) (ga)), (ra, aI E (180) (rf))]) rfl rfl ?_
        exact loop58 _ (x56) (rf) (fd) (0) (0) (0) (Nat.lt_succ_self _) (by omega) (by omega) (by intro j hj; exact absurd hj (Nat.not_lt_zero _)) (by exact hFG) (by exact RW_0 _ _) (by omega) (by omega)
      · refine g_aload_n C dX3_takeRecord_8 0 rfl ?_
        refine gf_X3_23 C 0 rfl rfl dX3_takeRecord_9 ?_
        refine g_iload_n C dX3_takeRecord_12 1 rfl ?_
        refine g_aload_n C dX3_takeRecord_13 0 rfl ?_
        refine gf_X3_10 C 0 rfl rfl dX3_takeRecord_14 ?_
        refine g_iload_n C dX3_takeRecord_17 1 rfl ?_
        refine g_callV C r mv_X3_169 dX3_takeRecord_18 (c_X1_at' g.l E ip ib f sz pl S P n1 (k) hS hP hPS hSm (by omega) (by omega)) (wr := ([(x, .inr (5, [.ref ip, z1, .ref lb, .ref fa, .ref ra, .int rc, .int pr, .int fc])), (lb, aB E (24) (lk2)), (fa, aF E (60) (ga)), (ra, aI E (180) (rf))] ++ zz E fo fd R60)) (As := [.int n1]) (rest := [.int n1, .ref lb]) (Spl.atZ [0, 3, 4, 5] [1, 2] rfl rfl rfl) 0 rfl rfl rfl rfl (Nat.le_of_ble_eq_true rfl) (by decide) (by omega) (by omega) (fun v w h => ?_)
        obtain ⟨x18, rfl, e18, rfl⟩ := h
        refine g_tail ?_
        change G E g ([(x, .inr (5, [.ref ip, z1, .ref lb, .ref fa, .ref ra, .int rc, .int pr, .int fc])), (lb, aB E (24) (lk2)), (fa, aF E (60) (ga)), (ra, aI E (180) (rf)), (ip, .inr (3, [.ref ib, .int sz, .int pl])), (ib, aB E (1500) (f))] ++ zz E fo fd R60) _ _ _ _ [.int x18, .int n1, .ref lb]
        refine g_i2b C dX3_takeRecord_21 (fun x21 e21 => ?_)
        refine g_bastore C 1 rfl dX3_takeRecord_22 (k) (by omega) (by omega) ?_
        change G E g ([(x, .inr (5, [.ref ip, z1, .ref lb, .ref fa, .ref ra, .int rc, .int pr, .int fc])), (lb, aB E (24) (upd (lk2) (k) (sB (u8 x21)))), (fa, aF E (60) (ga)), (ra, aI E (180) (rf)), (ip, .inr (3, [.ref ib, .int sz, .int pl])), (ib, aB E (1500) (f))] ++ zz E fo fd R60) _ _ _ _ _
        refine g_iinc C dX3_takeRecord_23 1 rfl (by rw [hN]; decide) (by decide) (by omega) (fun x23 e23 => ?_)
        refine g_lvE (lv' := [(1, .int x23), (0, .ref x)]) rfl ?_
        refine g_goto C 2 dX3_takeRecord_26 (by decide) ?_
        refine g_lv [1, 0] (lv' := [(0, .ref x), (1, .int x23)]) rfl ?_
        refine g_permZ [0, 4, 5, 1, 2, 3] rfl (ws' := [(x, .inr (5, [.ref ip, z1, .ref lb, .ref fa, .ref ra, .int rc, .int pr, .int fc])), (ip, .inr (3, [.ref ib, .int sz, .int pl])), (ib, aB E (1500) (f)), (lb, aB E (24) (upd (lk2) (k) (sB (u8 x21)))), (fa, aF E (60) (ga)), (ra, aI E (180) (rf))]) rfl rfl ?_
        exact ih2 (x23) (upd (lk2) (k) (sB (u8 x21))) (k + 1) (by omega) (by omega) (by omega) (by exact tl_step hBF hl e18 e21)
  refine g_lv [1, 0] (lv' := [(0, .ref x), (1, .int x0)]) rfl ?_
  exact loop2 _ (x0) (lf) (0) (Nat.lt_succ_self _) (by omega) (by omega) (by intro j hj; omega)
