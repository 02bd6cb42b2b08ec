def LK (E : GE) (g : Cf) (bb L : Nat) (x ip ib op lb fa ra m mi ml mt mz my mr mn mw ja : Nat) (ga : Nat → Option Nat) (fo : Nat → Nat) (k : Nat) : Prop :=
  ∀ (f of lf rf mlf tf sf yf mrf mnf wf : Nat → Int32) (jf : Nat → Int64) (fd : Nat → FV) (ob cap : Nat) (sz pl os rc pr fc t0 msz mpl te nf mrc wz wr i : Int32) (cN sN S P R : Nat) (fl : FL) (o : List Nat) (b0 : Nat → Nat), i.toInt = ((5 * k : Nat) : Int) → 5 * k ≤ L → IA k S P f sz pl msz mpl → IB k fl pr fc fd te nf tf sf yf lf mlf → IC R b0 rc mrc rf mrf → ID o cap os wz of wf → IN k P cap cN sN → G E g ([(x, .inr (5, [.ref ip, .ref op, .ref lb, .ref fa, .ref ra, .int rc, .int pr, .int fc])), (ip, .inr (3, [.ref ib, .int sz, .int pl])), (ib, aB E (1500) (f)), (op, .inr (4, [.ref ob, .int os])), (ob, aB E (cap) (of)), (lb, aB E (24) (lf)), (fa, aF E (60) (ga)), (ra, aI E (180) (rf)), (m, .inr (6, [.int t0, .ref mi, .int msz, .int mpl, .int te, .ref ml, .ref mt, .ref my, .ref mz, .int nf, .ref mr, .ref mn, .int mrc, .ref mw, .int wz, .int wr])), (mi, aB E (1500) (f)), (ml, aB E (24) (mlf)), (mt, aI E (60) (tf)), (mz, aI E (60) (sf)), (my, aB E (114000) (yf)), (mr, aI E (180) (mrf)), (mn, aI E (180) (mnf)), (mw, aB E (115000) (wf)), (ja, aJ E (1) (jf))] ++ zz E fo fd R60) cN sN 23 [(0, .ref bb), (1, .ref x), (2, .ref m), (3, .ref ja), (4, .int i)] []
set_option maxHeartbeats 1000000 in
set_option maxRecDepth 10000 in
theorem law_add {E : GE} {g : Cf} {ret : Option FieldType} {xs : Nat → Int32} {bb L : Nat} {x ip ib op lb fa ra m mi ml mt mz my mr mn mw ja : Nat} {ga : Nat → Option Nat} {fo : Nat → Nat} {f of lf rf mlf tf sf yf mrf mnf wf : Nat → Int32} {jf : Nat → Int64} {fd : Nat → FV} {ob cap : Nat} {sz pl os rc pr fc t0 msz mpl te nf mrc wz wr i : Int32} {cN sN S P R : Nat} {fl : FL} {o : List Nat} {b0 : Nat → Nat} (C : Cx E g cL_law RL ret) (r : RF g 19 603072 7198826) (hT : TH g.A g.s g.s.heap) (hl : g.l.stackTraces = false) (hN : g.n = 7) (hX : va_X bb L xs g.s g.s.heap) (hbl : bb < g.s.heap.size) (hbA : ¬ g.A bb) (hga : ∀ j, j < 60 → ga j = some (fo j)) (hL : L ≤ 2560) (k : Nat) (hk : 5 * k + 5 ≤ L) (hi : i.toInt = ((5 * k : Nat) : Int)) (hA : IA k S P f sz pl msz mpl) (hB : IB k fl pr fc fd te nf tf sf yf lf mlf) (hC : IC R b0 rc mrc rf mrf) (hD : ID o cap os wz of wf) (hE : IN k P cap cN sN) (K : LK E g bb L x ip ib op lb fa ra m mi ml mt mz my mr mn mw ja ga fo (k + 1)) : G E g ([(x, .inr (5, [.ref ip, .ref op, .ref lb, .ref fa, .ref ra, .int rc, .int pr, .int fc])), (ip, .inr (3, [.ref ib, .int sz, .int pl])), (ib, aB E (1500) (f)), (op, .inr (4, [.ref ob, .int os])), (ob, aB E (cap) (of)), (lb, aB E (24) (lf)), (fa, aF E (60) (ga)), (ra, aI E (180) (rf)), (m, .inr (6, [.int t0, .ref mi, .int msz, .int mpl, .int te, .ref ml, .ref mt, .ref my, .ref mz, .int nf, .ref mr, .ref mn, .int mrc, .ref mw, .int wz, .int wr])), (mi, aB E (1500) (f)), (ml, aB E (24) (mlf)), (mt, aI E (60) (tf)), (mz, aI E (60) (sf)), (my, aB E (114000) (yf)), (mr, aI E (180) (mrf)), (mn, aI E (180) (mnf)), (mw, aB E (115000) (wf)), (ja, aJ E (1) (jf))] ++ zz E fo fd R60) cN sN 100 [(0, .ref bb), (1, .ref x), (2, .ref m), (3, .ref ja), (4, .int i)] [] := by
  have hA0 := hA
  have hB0 := hB
  have hC0 := hC
  have hD0 := hD
  obtain ⟨hS, hmS, hP, hmP, hPS, hSk, hSm, hBF⟩ := hA0
  obtain ⟨hXP, hMP, hpt, hFW, hLN, hlf⟩ := hB0
  obtain ⟨hrc, hmrc, hR, hRW, hmRW⟩ := hC0
  obtain ⟨hos, hwz, hBo, hBw, hoc, ho5, hc2, hc3⟩ := hD0
  obtain ⟨hcN, hsN⟩ := hE
  refine g_aload_n C dL_law_100 1 rfl ?_
  refine g_aload_n C dL_law_101 0 rfl ?_
  refine g_iload C dL_law_102 4 rfl ?_
  refine g_iconst C dL_law_104 (by decide) (fun x104 e104 => ?_)
  refine g_iadd C dL_law_105 (by omega) (fun x105 e105 => ?_)
  refine g_sld C hX hbl hbA dL_law_106 (5 * k + 1) (by omega) (by omega) ?_
  refine g_i2b C dL_law_107 (fun x107 e107 => ?_)
  refine g_callV C r mv_L_23 dL_law_108 (c_X3_add g.l E x ip ib f sz pl S P x107 (.ref op) (.ref lb) (.ref fa) (.ref ra) (.int rc) (.int pr) (.int fc) hS hP hPS hSm) (wr := ([(op, .inr (4, [.ref ob, .int os])), (ob, aB E (cap) (of)), (lb, aB E (24) (lf)), (fa, aF E (60) (ga)), (ra, aI E (180) (rf)), (m, .inr (6, [.int t0, .ref mi, .int msz, .int mpl, .int te, .ref ml, .ref mt, .ref my, .ref mz, .int nf, .ref mr, .ref mn, .int mrc, .ref mw, .int wz, .int wr])), (mi, aB E (1500) (f)), (ml, aB E (24) (mlf)), (mt, aI E (60) (tf)), (mz, aI E (60) (sf)), (my, aB E (114000) (yf)), (mr, aI E (180) (mrf)), (mn, aI E (180) (mnf)), (mw, aB E (115000) (wf)), (ja, aJ E (1) (jf))] ++ zz E fo fd R60)) (As := [.int x107]) (rest := []) (Spl.atZ [3, 4, 5, 6, 7, 8, 9, 10, 11, 12, 13, 14, 15, 16, 17] [0, 1, 2] rfl rfl rfl) 0 rfl rfl rfl rfl (Nat.le_of_ble_eq_true rfl) (by decide) (by omega) (by omega) (fun v w h => ?_)
  obtain ⟨rfl, s1, f1, e108, rfl⟩ := h
  refine g_tail ?_
  change G E g ([(op, .inr (4, [.ref ob, .int os])), (ob, aB E (cap) (of)), (lb, aB E (24) (lf)), (fa, aF E (60) (ga)), (ra, aI E (180) (rf)), (m, .inr (6, [.int t0, .ref mi, .int msz, .int mpl, .int te, .ref ml, .ref mt, .ref my, .ref mz, .int nf, .ref mr, .ref mn, .int mrc, .ref mw, .int wz, .int wr])), (mi, aB E (1500) (f)), (ml, aB E (24) (mlf)), (mt, aI E (60) (tf)), (mz, aI E (60) (sf)), (my, aB E (114000) (yf)), (mr, aI E (180) (mrf)), (mn, aI E (180) (mnf)), (mw, aB E (115000) (wf)), (ja, aJ E (1) (jf)), (x, .inr (5, [.ref ip, .ref op, .ref lb, .ref fa, .ref ra, .int rc, .int pr, .int fc])), (ip, .inr (3, [.ref ib, .int s1, .int pl])), (ib, aB E (1500) (f1))] ++ zz E fo fd R60) _ _ _ _ []
  refine g_aload_n C dL_law_111 2 rfl ?_
  refine g_aload_n C dL_law_112 0 rfl ?_
  refine g_iload C dL_law_113 4 rfl ?_
  refine g_iconst C dL_law_115 (by decide) (fun x115 e115 => ?_)
  refine g_iadd C dL_law_116 (by omega) (fun x116 e116 => ?_)
  refine g_sld C hX hbl hbA dL_law_117 (5 * k + 1) (by omega) (by omega) ?_
  refine g_i2b C dL_law_118 (fun x118 e118 => ?_)
  refine g_callV C r mv_L_27 dL_law_119 (c_X4_add g.l E m mi f t0 msz x118 S (.int mpl) (.int te) (.ref ml) (.ref mt) (.ref my) (.ref mz) (.int nf) (.ref mr) (.ref mn) (.int mrc) (.ref mw) (.int wz) (.int wr) hmS hSm) (wr := ([(op, .inr (4, [.ref ob, .int os])), (ob, aB E (cap) (of)), (lb, aB E (24) (lf)), (fa, aF E (60) (ga)), (ra, aI E (180) (rf)), (ml, aB E (24) (mlf)), (mt, aI E (60) (tf)), (mz, aI E (60) (sf)), (my, aB E (114000) (yf)), (mr, aI E (180) (mrf)), (mn, aI E (180) (mnf)), (mw, aB E (115000) (wf)), (ja, aJ E (1) (jf)), (x, .inr (5, [.ref ip, .ref op, .ref lb, .ref fa, .ref ra, .int rc, .int pr, .int fc])), (ip, .inr (3, [.ref ib, .int s1, .int pl])), (ib, aB E (1500) (f1))] ++ zz E fo fd R60)) (As := [.int x118]) (rest := []) (Spl.atZ [0, 1, 2, 3, 4, 7, 8, 9, 10, 11, 12, 13, 14, 15, 16, 17] [5, 6] rfl rfl rfl) 0 rfl rfl rfl rfl (Nat.le_of_ble_eq_true rfl) (by decide) (by omega) (by omega) (fun v w h => ?_)
  obtain ⟨rfl, t1, s2, f2, et1, e119, rfl⟩ := h
  refine g_tail ?_
  change G E g ([(op, .inr (4, [.ref ob, .int os])), (ob, aB E (cap) (of)), (lb, aB E (24) (lf)), (fa, aF E (60) (ga)), (ra, aI E (180) (rf)), (ml, aB E (24) (mlf)), (mt, aI E (60) (tf)), (mz, aI E (60) (sf)), (my, aB E (114000) (yf)), (mr, aI E (180) (mrf)), (mn, aI E (180) (mnf)), (mw, aB E (115000) (wf)), (ja, aJ E (1) (jf)), (x, .inr (5, [.ref ip, .ref op, .ref lb, .ref fa, .ref ra, .int rc, .int pr, .int fc])), (ip, .inr (3, [.ref ib, .int s1, .int pl])), (ib, aB E (1500) (f1)), (m, .inr (6, [.int t1, .ref mi, .int s2, .int mpl, .int te, .ref ml, .ref mt, .ref my, .ref mz, .int nf, .ref mr, .ref mn, .int mrc, .ref mw, .int wz, .int wr])), (mi, aB E (1500) (f2))] ++ zz E fo fd R60) _ _ _ _ []
  have hxx : x107 = x118 := by rw [e107, e118]
  obtain ⟨S2, hS2, hmS2, hf2, hk2, hm2, hb2⟩ := law_ad hA e108 (by rw [hxx]; exact e119)
  subst hf2
  refine g_goto C 544 dL_law_122 (by decide) ?_
  refine g_iinc C dL_law_544 4 rfl (by rw [hN]; decide) (by decide) (by omega) (fun x544 e544 => ?_)
  refine g_lvE (lv' := [(4, .int x544), (0, .ref bb), (1, .ref x), (2, .ref m), (3, .ref ja)]) rfl ?_
  refine g_goto C 23 dL_law_547 (by decide) ?_
  refine g_lv [1, 2, 3, 4, 0] (lv' := [(0, .ref bb), (1, .ref x), (2, .ref m), (3, .ref ja), (4, .int x544)]) rfl ?_
  refine g_permZ [13, 14, 15, 0, 1, 2, 3, 4, 16, 17, 5, 6, 7, 8, 9, 10, 11, 12] rfl (ws' := [(x, .inr (5, [.ref ip, .ref op, .ref lb, .ref fa, .ref ra, .int rc, .int pr, .int fc])), (ip, .inr (3, [.ref ib, .int s1, .int pl])), (ib, aB E (1500) (f1)), (op, .inr (4, [.ref ob, .int os])), (ob, aB E (cap) (of)), (lb, aB E (24) (lf)), (fa, aF E (60) (ga)), (ra, aI E (180) (rf)), (m, .inr (6, [.int t1, .ref mi, .int s2, .int mpl, .int te, .ref ml, .ref mt, .ref my, .ref mz, .int nf, .ref mr, .ref mn, .int mrc, .ref mw, .int wz, .int wr])), (mi, aB E (1500) (f1)), (ml, aB E (24) (mlf)), (mt, aI E (60) (tf)), (mz, aI E (60) (sf)), (my, aB E (114000) (yf)), (mr, aI E (180) (mrf)), (mn, aI E (180) (mnf)), (mw, aB E (115000) (wf)), (ja, aJ E (1) (jf))]) rfl rfl ?_
  exact K _ _ _ _ _ _ _ _ _ _ _ _ _ _ _ _ _ _ _ _ _ _ _ _ _ _ _ _ _ _ _ _ _ _ _ _ _ _ (by omega) (by omega) ⟨hS2, hmS2, hP, hmP, by omega, by omega, hm2, hb2⟩ hB.up hC hD ⟨by omega, by omega⟩
set_option maxHeartbeats 1000000 in
set_option maxRecDepth 10000 in
theorem law_read {E : GE} {g : Cf} {ret : Option FieldType} {xs : Nat → Int32} {bb L : Nat} {x ip ib op lb fa ra m mi ml mt mz my mr mn mw ja : Nat} {ga : Nat → Option Nat} {fo : Nat → Nat} {f of lf rf mlf tf sf yf mrf mnf wf : Nat → Int32} {jf : Nat → Int64} {fd : Nat → FV} {ob cap : Nat} {sz pl os rc pr fc t0 msz mpl te nf mrc wz wr i : Int32} {cN sN S P R : Nat} {fl : FL} {o : List Nat} {b0 : Nat → Nat} (C : Cx E g cL_law RL ret) (r : RF g 19 603072 7198826) (hT : TH g.A g.s g.s.heap) (hl : g.l.stackTraces = false) (hN : g.n = 7) (hX : va_X bb L xs g.s g.s.heap) (hbl : bb < g.s.heap.size) (hbA : ¬ g.A bb) (hga : ∀ j, j < 60 → ga j = some (fo j)) (hL : L ≤ 2560) (k : Nat) (hk : 5 * k + 5 ≤ L) (hi : i.toInt = ((5 * k : Nat) : Int)) (hA : IA k S P f sz pl msz mpl) (hB : IB k fl pr fc fd te nf tf sf yf lf mlf) (hC : IC R b0 rc mrc rf mrf) (hD : ID o cap os wz of wf) (hE : IN k P cap cN sN) (K : LK E g bb L x ip ib op lb fa ra m mi ml mt mz my mr mn mw ja ga fo (k + 1)) : G E g ([(x, .inr (5, [.ref ip, .ref op, .ref lb, .ref fa, .ref ra, .int rc, .int pr, .int fc])), (ip, .inr (3, [.ref ib, .int sz, .int pl])), (ib, aB E (1500) (f)), (op, .inr (4, [.ref ob, .int os])), (ob, aB E (cap) (of)), (lb, aB E (24) (lf)), (fa, aF E (60) (ga)), (ra, aI E (180) (rf)), (m, .inr (6, [.int t0, .ref mi, .int msz, .int mpl, .int te, .ref ml, .ref mt, .ref my, .ref mz, .int nf, .ref mr, .ref mn, .int mrc, .ref mw, .int wz, .int wr])), (mi, aB E (1500) (f)), (ml, aB E (24) (mlf)), (mt, aI E (60) (tf)), (mz, aI E (60) (sf)), (my, aB E (114000) (yf)), (mr, aI E (180) (mrf)), (mn, aI E (180) (mnf)), (mw, aB E (115000) (wf)), (ja, aJ E (1) (jf))] ++ zz E fo fd R60) cN sN 125 [(0, .ref bb), (1, .ref x), (2, .ref m), (3, .ref ja), (4, .int i)] [] := by
  have hA0 := hA
  have hB0 := hB
  have hC0 := hC
  have hD0 := hD
  obtain ⟨hS, hmS, hP, hmP, hPS, hSk, hSm, hBF⟩ := hA0
  obtain ⟨hXP, hMP, hpt, hFW, hLN, hlf⟩ := hB0
  obtain ⟨hrc, hmrc, hR, hRW, hmRW⟩ := hC0
  obtain ⟨hos, hwz, hBo, hBw, hoc, ho5, hc2, hc3⟩ := hD0
  obtain ⟨hcN, hsN⟩ := hE
  have hrp := rdP_in (b := lk f P) hPS
  refine g_aload_n C dL_law_125 1 rfl ?_
  refine g_callV C r mv_L_28 dL_law_126 (c_X3_read g.l E x ip ib f sz pl S P lb fa ra ga fo fd lf rf rc pr fc (.ref op) hS hP hPS hSm hBF hga hXP.2.2.2) (wr := [(op, .inr (4, [.ref ob, .int os])), (ob, aB E (cap) (of)), (m, .inr (6, [.int t0, .ref mi, .int msz, .int mpl, .int te, .ref ml, .ref mt, .ref my, .ref mz, .int nf, .ref mr, .ref mn, .int mrc, .ref mw, .int wz, .int wr])), (mi, aB E (1500) (f)), (ml, aB E (24) (mlf)), (mt, aI E (60) (tf)), (mz, aI E (60) (sf)), (my, aB E (114000) (yf)), (mr, aI E (180) (mrf)), (mn, aI E (180) (mnf)), (mw, aB E (115000) (wf)), (ja, aJ E (1) (jf))]) (As := []) (rest := []) (Spl.atP [3, 4, 8, 9, 10, 11, 12, 13, 14, 15, 16, 17] [0, 1, 2, 5, 6, 7] rfl rfl rfl) 0 rfl rfl rfl rfl (Nat.le_of_ble_eq_true rfl) (by decide) (by omega) (by omega) (fun v w h => ?_)
  obtain ⟨x126, pl1, rc1, pr1, fc1, lf1, rf1, fd1, rfl, e126, p126, d126, rfl⟩ := h
  change G E g ([(op, .inr (4, [.ref ob, .int os])), (ob, aB E (cap) (of)), (m, .inr (6, [.int t0, .ref mi, .int msz, .int mpl, .int te, .ref ml, .ref mt, .ref my, .ref mz, .int nf, .ref mr, .ref mn, .int mrc, .ref mw, .int wz, .int wr])), (mi, aB E (1500) (f)), (ml, aB E (24) (mlf)), (mt, aI E (60) (tf)), (mz, aI E (60) (sf)), (my, aB E (114000) (yf)), (mr, aI E (180) (mrf)), (mn, aI E (180) (mnf)), (mw, aB E (115000) (wf)), (ja, aJ E (1) (jf)), (x, .inr (5, [.ref ip, .ref op, .ref lb, .ref fa, .ref ra, .int rc1, .int pr1, .int fc1])), (ip, .inr (3, [.ref ib, .int sz, .int pl1])), (ib, aB E (1500) (f)), (lb, aB E (24) (lf1)), (fa, aF E (60) (ga)), (ra, aI E (180) (rf1))] ++ zz E fo fd1 R60) _ _ _ _ [.int x126]
  refine g_aload_n C dL_law_129 2 rfl ?_
  refine g_callV C r mv_L_32 dL_law_130 (c_X4_read g.l E m mi ml mt mz my mr mn f mlf tf sf yf mrf mnf t0 msz mpl te nf mrc wr S P (.ref mw) (.int wz) hmS hmP hPS hSm hBF) (wr := ([(op, .inr (4, [.ref ob, .int os])), (ob, aB E (cap) (of)), (mw, aB E (115000) (wf)), (ja, aJ E (1) (jf)), (x, .inr (5, [.ref ip, .ref op, .ref lb, .ref fa, .ref ra, .int rc1, .int pr1, .int fc1])), (ip, .inr (3, [.ref ib, .int sz, .int pl1])), (ib, aB E (1500) (f)), (lb, aB E (24) (lf1)), (fa, aF E (60) (ga)), (ra, aI E (180) (rf1))] ++ zz E fo fd1 R60)) (As := []) (rest := [.int x126]) (Spl.atZ [0, 1, 10, 11, 12, 13, 14, 15, 16, 17] [2, 3, 4, 5, 6, 7, 8, 9] rfl rfl rfl) 0 rfl rfl rfl rfl (Nat.le_of_ble_eq_true rfl) (by decide) (by omega) (by omega) (fun v w h => ?_)
  obtain ⟨x130, t1, pl2, te2, nf2, rc2, wr2, lf2, tf2, sf2, yf2, rf2, nrf2, rfl, et1, e130, p130, d130, rfl⟩ := h
  refine g_tail ?_
  change G E g ([(op, .inr (4, [.ref ob, .int os])), (ob, aB E (cap) (of)), (mw, aB E (115000) (wf)), (ja, aJ E (1) (jf)), (x, .inr (5, [.ref ip, .ref op, .ref lb, .ref fa, .ref ra, .int rc1, .int pr1, .int fc1])), (ip, .inr (3, [.ref ib, .int sz, .int pl1])), (ib, aB E (1500) (f)), (lb, aB E (24) (lf1)), (fa, aF E (60) (ga)), (ra, aI E (180) (rf1)), (m, .inr (6, [.int t1, .ref mi, .int msz, .int pl2, .int te2, .ref ml, .ref mt, .ref my, .ref mz, .int nf2, .ref mr, .ref mn, .int rc2, .ref mw, .int wz, .int wr2])), (mi, aB E (1500) (f)), (ml, aB E (24) (lf2)), (mt, aI E (60) (tf2)), (mz, aI E (60) (sf2)), (my, aB E (114000) (yf2)), (mr, aI E (180) (rf2)), (mn, aI E (180) (nrf2))] ++ zz E fo fd1 R60) _ _ _ _ [.int x130, .int x126]
  obtain ⟨fl2, R2, b2, hB2, hC2⟩ := law_rd hA hB hC d126 d130
  clear d126 d130
  refine g_icmp_eq C 544 dL_law_133 (by decide) (fun c133 => ?_) (fun c133 => ?_)
  · refine g_iinc C dL_law_544 4 rfl (by rw [hN]; decide) (by decide) (by omega) (fun x544 e544 => ?_)
    refine g_lvE (lv' := [(4, .int x544), (0, .ref bb), (1, .ref x), (2, .ref m), (3, .ref ja)]) rfl ?_
    refine g_goto C 23 dL_law_547 (by decide) ?_
    refine g_lv [1, 2, 3, 4, 0] (lv' := [(0, .ref bb), (1, .ref x), (2, .ref m), (3, .ref ja), (4, .int x544)]) rfl ?_
    refine g_permZ [4, 5, 6, 0, 1, 7, 8, 9, 10, 11, 12, 13, 14, 15, 16, 17, 2, 3] rfl (ws' := [(x, .inr (5, [.ref ip, .ref op, .ref lb, .ref fa, .ref ra, .int rc1, .int pr1, .int fc1])), (ip, .inr (3, [.ref ib, .int sz, .int pl1])), (ib, aB E (1500) (f)), (op, .inr (4, [.ref ob, .int os])), (ob, aB E (cap) (of)), (lb, aB E (24) (lf1)), (fa, aF E (60) (ga)), (ra, aI E (180) (rf1)), (m, .inr (6, [.int t1, .ref mi, .int msz, .int pl2, .int te2, .ref ml, .ref mt, .ref my, .ref mz, .int nf2, .ref mr, .ref mn, .int rc2, .ref mw, .int wz, .int wr2])), (mi, aB E (1500) (f)), (ml, aB E (24) (lf2)), (mt, aI E (60) (tf2)), (mz, aI E (60) (sf2)), (my, aB E (114000) (yf2)), (mr, aI E (180) (rf2)), (mn, aI E (180) (nrf2)), (mw, aB E (115000) (wf)), (ja, aJ E (1) (jf))]) rfl rfl ?_
    exact K _ _ _ _ _ _ _ _ _ _ _ _ _ _ _ _ _ _ _ _ _ _ _ _ _ _ _ _ _ _ _ _ _ _ _ _ _ _ (by omega) (by omega) ⟨hS, hmS, p126, p130, hrp.2, by omega, hSm, hBF⟩ hB2 hC2 hD ⟨by omega, by omega⟩
  · exfalso; omega
set_option maxHeartbeats 1000000 in
set_option maxRecDepth 10000 in
theorem law_field {E : GE} {g : Cf} {ret : Option FieldType} {xs : Nat → Int32} {bb L : Nat} {x ip ib op lb fa ra m mi ml mt mz my mr mn mw ja : Nat} {ga : Nat → Option Nat} {fo : Nat → Nat} {f of lf rf mlf tf sf yf mrf mnf wf : Nat → Int32} {jf : Nat → Int64} {fd : Nat → FV} {ob cap : Nat} {sz pl os rc pr fc t0 msz mpl te nf mrc wz wr i : Int32} {cN sN S P R : Nat} {fl : FL} {o : List Nat} {b0 : Nat → Nat} (C : Cx E g cL_law RL ret) (r : RF g 19 603072 7198826) (hT : TH g.A g.s g.s.heap) (hl : g.l.stackTraces = false) (hN : g.n = 7) (hX : va_X bb L xs g.s g.s.heap) (hbl : bb < g.s.heap.size) (hbA : ¬ g.A bb) (hga : ∀ j, j < 60 → ga j = some (fo j)) (hL : L ≤ 2560) (k : Nat) (hk : 5 * k + 5 ≤ L) (hi : i.toInt = ((5 * k : Nat) : Int)) (hA : IA k S P f sz pl msz mpl) (hB : IB k fl pr fc fd te nf tf sf yf lf mlf) (hC : IC R b0 rc mrc rf mrf) (hD : ID o cap os wz of wf) (hE : IN k P cap cN sN) (K : LK E g bb L x ip ib op lb fa ra m mi ml mt mz my mr mn mw ja ga fo (k + 1)) : G E g ([(x, .inr (5, [.ref ip, .ref op, .ref lb, .ref fa, .ref ra, .int rc, .int pr, .int fc])), (ip, .inr (3, [.ref ib, .int sz, .int pl])), (ib, aB E (1500) (f)), (op, .inr (4, [.ref ob, .int os])), (ob, aB E (cap) (of)), (lb, aB E (24) (lf)), (fa, aF E (60) (ga)), (ra, aI E (180) (rf)), (m, .inr (6, [.int t0, .ref mi, .int msz, .int mpl, .int te, .ref ml, .ref mt, .ref my, .ref mz, .int nf, .ref mr, .ref mn, .int mrc, .ref mw, .int wz, .int wr])), (mi, aB E (1500) (f)), (ml, aB E (24) (mlf)), (mt, aI E (60) (tf)), (mz, aI E (60) (sf)), (my, aB E (114000) (yf)), (mr, aI E (180) (mrf)), (mn, aI E (180) (mnf)), (mw, aB E (115000) (wf)), (ja, aJ E (1) (jf))] ++ zz E fo fd R60) cN sN 138 [(0, .ref bb), (1, .ref x), (2, .ref m), (3, .ref ja), (4, .int i)] [] := by
  have hA0 := hA
  have hB0 := hB
  have hC0 := hC
  have hD0 := hD
  obtain ⟨hS, hmS, hP, hmP, hPS, hSk, hSm, hBF⟩ := hA0
  obtain ⟨hXP, hMP, hpt, hFW, hLN, hlf⟩ := hB0
  obtain ⟨hrc, hmrc, hR, hRW, hmRW⟩ := hC0
  obtain ⟨hos, hwz, hBo, hBw, hoc, ho5, hc2, hc3⟩ := hD0
  obtain ⟨hcN, hsN⟩ := hE
  refine g_aload_n C dL_law_138 1 rfl ?_
  refine g_aload_n C dL_law_139 0 rfl ?_
  refine g_iload C dL_law_140 4 rfl ?_
  refine g_iconst C dL_law_142 (by decide) (fun x142 e142 => ?_)
  refine g_iadd C dL_law_143 (by omega) (fun x143 e143 => ?_)
  refine g_sld C hX hbl hbA dL_law_144 (5 * k + 1) (by omega) (by omega) ?_
  refine g_aload_n C dL_law_145 0 rfl ?_
  refine g_iload C dL_law_146 4 rfl ?_
  refine g_iconst C dL_law_148 (by decide) (fun x148 e148 => ?_)
  refine g_iadd C dL_law_149 (by omega) (fun x149 e149 => ?_)
  refine g_sld C hX hbl hbA dL_law_150 (5 * k + 2) (by omega) (by omega) ?_
  refine g_callV C r mv_L_33 dL_law_151 (c_X3_field g.l E x fa ga fo fd fl pr fc (xs (5 * k + 1)) (xs (5 * k + 2)) (.ref ip) (.ref op) (.ref lb) (.ref ra) (.int rc) hXP hFW hga) (wr := [(ip, .inr (3, [.ref ib, .int sz, .int pl])), (ib, aB E (1500) (f)), (op, .inr (4, [.ref ob, .int os])), (ob, aB E (cap) (of)), (lb, aB E (24) (lf)), (ra, aI E (180) (rf)), (m, .inr (6, [.int t0, .ref mi, .int msz, .int mpl, .int te, .ref ml, .ref mt, .ref my, .ref mz, .int nf, .ref mr, .ref mn, .int mrc, .ref mw, .int wz, .int wr])), (mi, aB E (1500) (f)), (ml, aB E (24) (mlf)), (mt, aI E (60) (tf)), (mz, aI E (60) (sf)), (my, aB E (114000) (yf)), (mr, aI E (180) (mrf)), (mn, aI E (180) (mnf)), (mw, aB E (115000) (wf)), (ja, aJ E (1) (jf))]) (As := [.int (xs (5 * k + 1)), .int (xs (5 * k + 2))]) (rest := []) (Spl.atP [1, 2, 3, 4, 5, 7, 8, 9, 10, 11, 12, 13, 14, 15, 16, 17] [0, 6] rfl rfl rfl) 0 rfl rfl rfl rfl (Nat.le_of_ble_eq_true rfl) (by decide) (by omega) (by omega) (fun v w h => ?_)
  obtain ⟨x151, rfl, e151, rfl⟩ := h
  change G E g ([(ip, .inr (3, [.ref ib, .int sz, .int pl])), (ib, aB E (1500) (f)), (op, .inr (4, [.ref ob, .int os])), (ob, aB E (cap) (of)), (lb, aB E (24) (lf)), (ra, aI E (180) (rf)), (m, .inr (6, [.int t0, .ref mi, .int msz, .int mpl, .int te, .ref ml, .ref mt, .ref my, .ref mz, .int nf, .ref mr, .ref mn, .int mrc, .ref mw, .int wz, .int wr])), (mi, aB E (1500) (f)), (ml, aB E (24) (mlf)), (mt, aI E (60) (tf)), (mz, aI E (60) (sf)), (my, aB E (114000) (yf)), (mr, aI E (180) (mrf)), (mn, aI E (180) (mnf)), (mw, aB E (115000) (wf)), (ja, aJ E (1) (jf)), (x, .inr (5, [.ref ip, .ref op, .ref lb, .ref fa, .ref ra, .int rc, .int pr, .int fc])), (fa, aF E (60) (ga))] ++ zz E fo fd R60) _ _ _ _ [.int x151]
  refine g_aload_n C dL_law_154 2 rfl ?_
  refine g_aload_n C dL_law_155 0 rfl ?_
  refine g_iload C dL_law_156 4 rfl ?_
  refine g_iconst C dL_law_158 (by decide) (fun x158 e158 => ?_)
  refine g_iadd C dL_law_159 (by omega) (fun x159 e159 => ?_)
  refine g_sld C hX hbl hbA dL_law_160 (5 * k + 1) (by omega) (by omega) ?_
  refine g_aload_n C dL_law_161 0 rfl ?_
  refine g_iload C dL_law_162 4 rfl ?_
  refine g_iconst C dL_law_164 (by decide) (fun x164 e164 => ?_)
  refine g_iadd C dL_law_165 (by omega) (fun x165 e165 => ?_)
  refine g_sld C hX hbl hbA dL_law_166 (5 * k + 2) (by omega) (by omega) ?_
  refine g_callV C r mv_L_36 dL_law_167 (c_X4_field g.l E m mt tf sf yf te nf fl t0 (xs (5 * k + 1)) (xs (5 * k + 2)) (.ref mi) (.int msz) (.int mpl) (.ref ml) (.ref my) (.ref mz) (.ref mr) (.ref mn) (.int mrc) (.ref mw) (.int wz) (.int wr) hMP hFW) (wr := ([(ip, .inr (3, [.ref ib, .int sz, .int pl])), (ib, aB E (1500) (f)), (op, .inr (4, [.ref ob, .int os])), (ob, aB E (cap) (of)), (lb, aB E (24) (lf)), (ra, aI E (180) (rf)), (mi, aB E (1500) (f)), (ml, aB E (24) (mlf)), (mz, aI E (60) (sf)), (my, aB E (114000) (yf)), (mr, aI E (180) (mrf)), (mn, aI E (180) (mnf)), (mw, aB E (115000) (wf)), (ja, aJ E (1) (jf)), (x, .inr (5, [.ref ip, .ref op, .ref lb, .ref fa, .ref ra, .int rc, .int pr, .int fc])), (fa, aF E (60) (ga))] ++ zz E fo fd R60)) (As := [.int (xs (5 * k + 1)), .int (xs (5 * k + 2))]) (rest := [.int x151]) (Spl.atZ [0, 1, 2, 3, 4, 5, 7, 8, 10, 11, 12, 13, 14, 15, 16, 17] [6, 9] rfl rfl rfl) 0 rfl rfl rfl rfl (Nat.le_of_ble_eq_true rfl) (by decide) (by omega) (by omega) (fun v w h => ?_)
  obtain ⟨x167, t1, rfl, et1, e167, rfl⟩ := h
  refine g_tail ?_
  change G E g ([(ip, .inr (3, [.ref ib, .int sz, .int pl])), (ib, aB E (1500) (f)), (op, .inr (4, [.ref ob, .int os])), (ob, aB E (cap) (of)), (lb, aB E (24) (lf)), (ra, aI E (180) (rf)), (mi, aB E (1500) (f)), (ml, aB E (24) (mlf)), (mz, aI E (60) (sf)), (my, aB E (114000) (yf)), (mr, aI E (180) (mrf)), (mn, aI E (180) (mnf)), (mw, aB E (115000) (wf)), (ja, aJ E (1) (jf)), (x, .inr (5, [.ref ip, .ref op, .ref lb, .ref fa, .ref ra, .int rc, .int pr, .int fc])), (fa, aF E (60) (ga)), (m, .inr (6, [.int t1, .ref mi, .int msz, .int mpl, .int te, .ref ml, .ref mt, .ref my, .ref mz, .int nf, .ref mr, .ref mn, .int mrc, .ref mw, .int wz, .int wr])), (mt, aI E (60) (tf))] ++ zz E fo fd R60) _ _ _ _ [.int x167, .int x151]
  refine g_icmp_eq C 544 dL_law_170 (by decide) (fun c170 => ?_) (fun c170 => ?_)
  · refine g_iinc C dL_law_544 4 rfl (by rw [hN]; decide) (by decide) (by omega) (fun x544 e544 => ?_)
    refine g_lvE (lv' := [(4, .int x544), (0, .ref bb), (1, .ref x), (2, .ref m), (3, .ref ja)]) rfl ?_
    refine g_goto C 23 dL_law_547 (by decide) ?_
    refine g_lv [1, 2, 3, 4, 0] (lv' := [(0, .ref bb), (1, .ref x), (2, .ref m), (3, .ref ja), (4, .int x544)]) rfl ?_
    refine g_permZ [14, 0, 1, 2, 3, 4, 15, 5, 16, 6, 7, 17, 8, 9, 10, 11, 12, 13] rfl (ws' := [(x, .inr (5, [.ref ip, .ref op, .ref lb, .ref fa, .ref ra, .int rc, .int pr, .int fc])), (ip, .inr (3, [.ref ib, .int sz, .int pl])), (ib, aB E (1500) (f)), (op, .inr (4, [.ref ob, .int os])), (ob, aB E (cap) (of)), (lb, aB E (24) (lf)), (fa, aF E (60) (ga)), (ra, aI E (180) (rf)), (m, .inr (6, [.int t1, .ref mi, .int msz, .int mpl, .int te, .ref ml, .ref mt, .ref my, .ref mz, .int nf, .ref mr, .ref mn, .int mrc, .ref mw, .int wz, .int wr])), (mi, aB E (1500) (f)), (ml, aB E (24) (mlf)), (mt, aI E (60) (tf)), (mz, aI E (60) (sf)), (my, aB E (114000) (yf)), (mr, aI E (180) (mrf)), (mn, aI E (180) (mnf)), (mw, aB E (115000) (wf)), (ja, aJ E (1) (jf))]) rfl rfl ?_
    exact K _ _ _ _ _ _ _ _ _ _ _ _ _ _ _ _ _ _ _ _ _ _ _ _ _ _ _ _ _ _ _ _ _ _ _ _ _ _ (by omega) (by omega) hA.up hB.up hC hD ⟨by omega, by omega⟩
  · exfalso; omega
set_option maxHeartbeats 1000000 in
set_option maxRecDepth 10000 in
theorem law_indicator {E : GE} {g : Cf} {ret : Option FieldType} {xs : Nat → Int32} {bb L : Nat} {x ip ib op lb fa ra m mi ml mt mz my mr mn mw ja : Nat} {ga : Nat → Option Nat} {fo : Nat → Nat} {f of lf rf mlf tf sf yf mrf mnf wf : Nat → Int32} {jf : Nat → Int64} {fd : Nat → FV} {ob cap : Nat} {sz pl os rc pr fc t0 msz mpl te nf mrc wz wr i : Int32} {cN sN S P R : Nat} {fl : FL} {o : List Nat} {b0 : Nat → Nat} (C : Cx E g cL_law RL ret) (r : RF g 19 603072 7198826) (hT : TH g.A g.s g.s.heap) (hl : g.l.stackTraces = false) (hN : g.n = 7) (hX : va_X bb L xs g.s g.s.heap) (hbl : bb < g.s.heap.size) (hbA : ¬ g.A bb) (hga : ∀ j, j < 60 → ga j = some (fo j)) (hL : L ≤ 2560) (k : Nat) (hk : 5 * k + 5 ≤ L) (hi : i.toInt = ((5 * k : Nat) : Int)) (hA : IA k S P f sz pl msz mpl) (hB : IB k fl pr fc fd te nf tf sf yf lf mlf) (hC : IC R b0 rc mrc rf mrf) (hD : ID o cap os wz of wf) (hE : IN k P cap cN sN) (K : LK E g bb L x ip ib op lb fa ra m mi ml mt mz my mr mn mw ja ga fo (k + 1)) : G E g ([(x, .inr (5, [.ref ip, .ref op, .ref lb, .ref fa, .ref ra, .int rc, .int pr, .int fc])), (ip, .inr (3, [.ref ib, .int sz, .int pl])), (ib, aB E (1500) (f)), (op, .inr (4, [.ref ob, .int os])), (ob, aB E (cap) (of)), (lb, aB E (24) (lf)), (fa, aF E (60) (ga)), (ra, aI E (180) (rf)), (m, .inr (6, [.int t0, .ref mi, .int msz, .int mpl, .int te, .ref ml, .ref mt, .ref my, .ref mz, .int nf, .ref mr, .ref mn, .int mrc, .ref mw, .int wz, .int wr])), (mi, aB E (1500) (f)), (ml, aB E (24) (mlf)), (mt, aI E (60) (tf)), (mz, aI E (60) (sf)), (my, aB E (114000) (yf)), (mr, aI E (180) (mrf)), (mn, aI E (180) (mnf)), (mw, aB E (115000) (wf)), (ja, aJ E (1) (jf))] ++ zz E fo fd R60) cN sN 175 [(0, .ref bb), (1, .ref x), (2, .ref m), (3, .ref ja), (4, .int i)] [] := by
  have hA0 := hA
  have hB0 := hB
  have hC0 := hC
  have hD0 := hD
  obtain ⟨hS, hmS, hP, hmP, hPS, hSk, hSm, hBF⟩ := hA0
  obtain ⟨hXP, hMP, hpt, hFW, hLN, hlf⟩ := hB0
  obtain ⟨hrc, hmrc, hR, hRW, hmRW⟩ := hC0
  obtain ⟨hos, hwz, hBo, hBw, hoc, ho5, hc2, hc3⟩ := hD0
  obtain ⟨hcN, hsN⟩ := hE
  refine g_aload_n C dL_law_175 1 rfl ?_
  refine g_aload_n C dL_law_176 0 rfl ?_
  refine g_iload C dL_law_177 4 rfl ?_
  refine g_iconst C dL_law_179 (by decide) (fun x179 e179 => ?_)
  refine g_iadd C dL_law_180 (by omega) (fun x180 e180 => ?_)
  refine g_sld C hX hbl hbA dL_law_181 (5 * k + 1) (by omega) (by omega) ?_
  refine g_aload_n C dL_law_182 0 rfl ?_
  refine g_iload C dL_law_183 4 rfl ?_
  refine g_iconst C dL_law_185 (by decide) (fun x185 e185 => ?_)
  refine g_iadd C dL_law_186 (by omega) (fun x186 e186 => ?_)
  refine g_sld C hX hbl hbA dL_law_187 (5 * k + 2) (by omega) (by omega) ?_
  refine g_callV C r mv_L_37 dL_law_188 (c_X3_indicator g.l E x fa ga fo fd fl pr fc (xs (5 * k + 1)) (xs (5 * k + 2)) (.ref ip) (.ref op) (.ref lb) (.ref ra) (.int rc) hXP hFW hga) (wr := [(ip, .inr (3, [.ref ib, .int sz, .int pl])), (ib, aB E (1500) (f)), (op, .inr (4, [.ref ob, .int os])), (ob, aB E (cap) (of)), (lb, aB E (24) (lf)), (ra, aI E (180) (rf)), (m, .inr (6, [.int t0, .ref mi, .int msz, .int mpl, .int te, .ref ml, .ref mt, .ref my, .ref mz, .int nf, .ref mr, .ref mn, .int mrc, .ref mw, .int wz, .int wr])), (mi, aB E (1500) (f)), (ml, aB E (24) (mlf)), (mt, aI E (60) (tf)), (mz, aI E (60) (sf)), (my, aB E (114000) (yf)), (mr, aI E (180) (mrf)), (mn, aI E (180) (mnf)), (mw, aB E (115000) (wf)), (ja, aJ E (1) (jf))]) (As := [.int (xs (5 * k + 1)), .int (xs (5 * k + 2))]) (rest := []) (Spl.atP [1, 2, 3, 4, 5, 7, 8, 9, 10, 11, 12, 13, 14, 15, 16, 17] [0, 6] rfl rfl rfl) 0 rfl rfl rfl rfl (Nat.le_of_ble_eq_true rfl) (by decide) (by omega) (by omega) (fun v w h => ?_)
  obtain ⟨x188, rfl, e188, rfl⟩ := h
  change G E g ([(ip, .inr (3, [.ref ib, .int sz, .int pl])), (ib, aB E (1500) (f)), (op, .inr (4, [.ref ob, .int os])), (ob, aB E (cap) (of)), (lb, aB E (24) (lf)), (ra, aI E (180) (rf)), (m, .inr (6, [.int t0, .ref mi, .int msz, .int mpl, .int te, .ref ml, .ref mt, .ref my, .ref mz, .int nf, .ref mr, .ref mn, .int mrc, .ref mw, .int wz, .int wr])), (mi, aB E (1500) (f)), (ml, aB E (24) (mlf)), (mt, aI E (60) (tf)), (mz, aI E (60) (sf)), (my, aB E (114000) (yf)), (mr, aI E (180) (mrf)), (mn, aI E (180) (mnf)), (mw, aB E (115000) (wf)), (ja, aJ E (1) (jf)), (x, .inr (5, [.ref ip, .ref op, .ref lb, .ref fa, .ref ra, .int rc, .int pr, .int fc])), (fa, aF E (60) (ga))] ++ zz E fo fd R60) _ _ _ _ [.int x188]
  refine g_aload_n C dL_law_191 2 rfl ?_
  refine g_aload_n C dL_law_192 0 rfl ?_
  refine g_iload C dL_law_193 4 rfl ?_
  refine g_iconst C dL_law_195 (by decide) (fun x195 e195 => ?_)
  refine g_iadd C dL_law_196 (by omega) (fun x196 e196 => ?_)
  refine g_sld C hX hbl hbA dL_law_197 (5 * k + 1) (by omega) (by omega) ?_
  refine g_aload_n C dL_law_198 0 rfl ?_
  refine g_iload C dL_law_199 4 rfl ?_
  refine g_iconst C dL_law_201 (by decide) (fun x201 e201 => ?_)
  refine g_iadd C dL_law_202 (by omega) (fun x202 e202 => ?_)
  refine g_sld C hX hbl hbA dL_law_203 (5 * k + 2) (by omega) (by omega) ?_
  refine g_callV C r mv_L_40 dL_law_204 (c_X4_indicator g.l E m mt my tf sf yf te nf fl t0 (xs (5 * k + 1)) (xs (5 * k + 2)) (.ref mi) (.int msz) (.int mpl) (.ref ml) (.ref mz) (.ref mr) (.ref mn) (.int mrc) (.ref mw) (.int wz) (.int wr) hMP hFW) (wr := ([(ip, .inr (3, [.ref ib, .int sz, .int pl])), (ib, aB E (1500) (f)), (op, .inr (4, [.ref ob, .int os])), (ob, aB E (cap) (of)), (lb, aB E (24) (lf)), (ra, aI E (180) (rf)), (mi, aB E (1500) (f)), (ml, aB E (24) (mlf)), (mz, aI E (60) (sf)), (mr, aI E (180) (mrf)), (mn, aI E (180) (mnf)), (mw, aB E (115000) (wf)), (ja, aJ E (1) (jf)), (x, .inr (5, [.ref ip, .ref op, .ref lb, .ref fa, .ref ra, .int rc, .int pr, .int fc])), (fa, aF E (60) (ga))] ++ zz E fo fd R60)) (As := [.int (xs (5 * k + 1)), .int (xs (5 * k + 2))]) (rest := [.int x188]) (Spl.atZ [0, 1, 2, 3, 4, 5, 7, 8, 10, 12, 13, 14, 15, 16, 17] [6, 9, 11] rfl rfl rfl) 0 rfl rfl rfl rfl (Nat.le_of_ble_eq_true rfl) (by decide) (by omega) (by omega) (fun v w h => ?_)
  obtain ⟨x204, t1, rfl, et1, e204, rfl⟩ := h
  refine g_tail ?_
  change G E g ([(ip, .inr (3, [.ref ib, .int sz, .int pl])), (ib, aB E (1500) (f)), (op, .inr (4, [.ref ob, .int os])), (ob, aB E (cap) (of)), (lb, aB E (24) (lf)), (ra, aI E (180) (rf)), (mi, aB E (1500) (f)), (ml, aB E (24) (mlf)), (mz, aI E (60) (sf)), (mr, aI E (180) (mrf)), (mn, aI E (180) (mnf)), (mw, aB E (115000) (wf)), (ja, aJ E (1) (jf)), (x, .inr (5, [.ref ip, .ref op, .ref lb, .ref fa, .ref ra, .int rc, .int pr, .int fc])), (fa, aF E (60) (ga)), (m, .inr (6, [.int t1, .ref mi, .int msz, .int mpl, .int te, .ref ml, .ref mt, .ref my, .ref mz, .int nf, .ref mr, .ref mn, .int mrc, .ref mw, .int wz, .int wr])), (mt, aI E (60) (tf)), (my, aB E (114000) (yf))] ++ zz E fo fd R60) _ _ _ _ [.int x204, .int x188]
  refine g_icmp_eq C 544 dL_law_207 (by decide) (fun c207 => ?_) (fun c207 => ?_)
  · refine g_iinc C dL_law_544 4 rfl (by rw [hN]; decide) (by decide) (by omega) (fun x544 e544 => ?_)
    refine g_lvE (lv' := [(4, .int x544), (0, .ref bb), (1, .ref x), (2, .ref m), (3, .ref ja)]) rfl ?_
    refine g_goto C 23 dL_law_547 (by decide) ?_
    refine g_lv [1, 2, 3, 4, 0] (lv' := [(0, .ref bb), (1, .ref x), (2, .ref m), (3, .ref ja), (4, .int x544)]) rfl ?_
    refine g_permZ [13, 0, 1, 2, 3, 4, 14, 5, 15, 6, 7, 16, 8, 17, 9, 10, 11, 12] rfl (ws' := [(x, .inr (5, [.ref ip, .ref op, .ref lb, .ref fa, .ref ra, .int rc, .int pr, .int fc])), (ip, .inr (3, [.ref ib, .int sz, .int pl])), (ib, aB E (1500) (f)), (op, .inr (4, [.ref ob, .int os])), (ob, aB E (cap) (of)), (lb, aB E (24) (lf)), (fa, aF E (60) (ga)), (ra, aI E (180) (rf)), (m, .inr (6, [.int t1, .ref mi, .int msz, .int mpl, .int te, .ref ml, .ref mt, .ref my, .ref mz, .int nf, .ref mr, .ref mn, .int mrc, .ref mw, .int wz, .int wr])), (mi, aB E (1500) (f)), (ml, aB E (24) (mlf)), (mt, aI E (60) (tf)), (mz, aI E (60) (sf)), (my, aB E (114000) (yf)), (mr, aI E (180) (mrf)), (mn, aI E (180) (mnf)), (mw, aB E (115000) (wf)), (ja, aJ E (1) (jf))]) rfl rfl ?_
    exact K _ _ _ _ _ _ _ _ _ _ _ _ _ _ _ _ _ _ _ _ _ _ _ _ _ _ _ _ _ _ _ _ _ _ _ _ _ _ (by omega) (by omega) hA.up hB.up hC hD ⟨by omega, by omega⟩
  · exfalso; omega
set_option maxHeartbeats 1000000 in
set_option maxRecDepth 10000 in
theorem law_subfield {E : GE} {g : Cf} {ret : Option FieldType} {xs : Nat → Int32} {bb L : Nat} {x ip ib op lb fa ra m mi ml mt mz my mr mn mw ja : Nat} {ga : Nat → Option Nat} {fo : Nat → Nat} {f of lf rf mlf tf sf yf mrf mnf wf : Nat → Int32} {jf : Nat → Int64} {fd : Nat → FV} {ob cap : Nat} {sz pl os rc pr fc t0 msz mpl te nf mrc wz wr i : Int32} {cN sN S P R : Nat} {fl : FL} {o : List Nat} {b0 : Nat → Nat} (C : Cx E g cL_law RL ret) (r : RF g 19 603072 7198826) (hT : TH g.A g.s g.s.heap) (hl : g.l.stackTraces = false) (hN : g.n = 7) (hX : va_X bb L xs g.s g.s.heap) (hbl : bb < g.s.heap.size) (hbA : ¬ g.A bb) (hga : ∀ j, j < 60 → ga j = some (fo j)) (hL : L ≤ 2560) (k : Nat) (hk : 5 * k + 5 ≤ L) (hi : i.toInt = ((5 * k : Nat) : Int)) (hA : IA k S P f sz pl msz mpl) (hB : IB k fl pr fc fd te nf tf sf yf lf mlf) (hC : IC R b0 rc mrc rf mrf) (hD : ID o cap os wz of wf) (hE : IN k P cap cN sN) (K : LK E g bb L x ip ib op lb fa ra m mi ml mt mz my mr mn mw ja ga fo (k + 1)) : G E g ([(x, .inr (5, [.ref ip, .ref op, .ref lb, .ref fa, .ref ra, .int rc, .int pr, .int fc])), (ip, .inr (3, [.ref ib, .int sz, .int pl])), (ib, aB E (1500) (f)), (op, .inr (4, [.ref ob, .int os])), (ob, aB E (cap) (of)), (lb, aB E (24) (lf)), (fa, aF E (60) (ga)), (ra, aI E (180) (rf)), (m, .inr (6, [.int t0, .ref mi, .int msz, .int mpl, .int te, .ref ml, .ref mt, .ref my, .ref mz, .int nf, .ref mr, .ref mn, .int mrc, .ref mw, .int wz, .int wr])), (mi, aB E (1500) (f)), (ml, aB E (24) (mlf)), (mt, aI E (60) (tf)), (mz, aI E (60) (sf)), (my, aB E (114000) (yf)), (mr, aI E (180) (mrf)), (mn, aI E (180) (mnf)), (mw, aB E (115000) (wf)), (ja, aJ E (1) (jf))] ++ zz E fo fd R60) cN sN 212 [(0, .ref bb), (1, .ref x), (2, .ref m), (3, .ref ja), (4, .int i)] [] := by
  have hA0 := hA
  have hB0 := hB
  have hC0 := hC
  have hD0 := hD
  obtain ⟨hS, hmS, hP, hmP, hPS, hSk, hSm, hBF⟩ := hA0
  obtain ⟨hXP, hMP, hpt, hFW, hLN, hlf⟩ := hB0
  obtain ⟨hrc, hmrc, hR, hRW, hmRW⟩ := hC0
  obtain ⟨hos, hwz, hBo, hBw, hoc, ho5, hc2, hc3⟩ := hD0
  obtain ⟨hcN, hsN⟩ := hE
  refine g_aload_n C dL_law_212 1 rfl ?_
  refine g_aload_n C dL_law_213 0 rfl ?_
  refine g_iload C dL_law_214 4 rfl ?_
  refine g_iconst C dL_law_216 (by decide) (fun x216 e216 => ?_)
  refine g_iadd C dL_law_217 (by omega) (fun x217 e217 => ?_)
  refine g_sld C hX hbl hbA dL_law_218 (5 * k + 1) (by omega) (by omega) ?_
  refine g_aload_n C dL_law_219 0 rfl ?_
  refine g_iload C dL_law_220 4 rfl ?_
  refine g_iconst C dL_law_222 (by decide) (fun x222 e222 => ?_)
  refine g_iadd C dL_law_223 (by omega) (fun x223 e223 => ?_)
  refine g_sld C hX hbl hbA dL_law_224 (5 * k + 2) (by omega) (by omega) ?_
  refine g_aload_n C dL_law_225 0 rfl ?_
  refine g_iload C dL_law_226 4 rfl ?_
  refine g_iconst C dL_law_228 (by decide) (fun x228 e228 => ?_)
  refine g_iadd C dL_law_229 (by omega) (fun x229 e229 => ?_)
  refine g_sld C hX hbl hbA dL_law_230 (5 * k + 3) (by omega) (by omega) ?_
  refine g_aload_n C dL_law_231 0 rfl ?_
  refine g_iload C dL_law_232 4 rfl ?_
  refine g_iconst C dL_law_234 (by decide) (fun x234 e234 => ?_)
  refine g_iadd C dL_law_235 (by omega) (fun x235 e235 => ?_)
  refine g_sld C hX hbl hbA dL_law_236 (5 * k + 4) (by omega) (by omega) ?_
  refine g_callV C r mv_L_41 dL_law_237 (c_X3_subfield g.l E x fa ga fo fd fl pr fc (xs (5 * k + 1)) (xs (5 * k + 2)) (xs (5 * k + 3)) (xs (5 * k + 4)) (.ref ip) (.ref op) (.ref lb) (.ref ra) (.int rc) hXP hFW hga) (wr := [(ip, .inr (3, [.ref ib, .int sz, .int pl])), (ib, aB E (1500) (f)), (op, .inr (4, [.ref ob, .int os])), (ob, aB E (cap) (of)), (lb, aB E (24) (lf)), (ra, aI E (180) (rf)), (m, .inr (6, [.int t0, .ref mi, .int msz, .int mpl, .int te, .ref ml, .ref mt, .ref my, .ref mz, .int nf, .ref mr, .ref mn, .int mrc, .ref mw, .int wz, .int wr])), (mi, aB E (1500) (f)), (ml, aB E (24) (mlf)), (mt, aI E (60) (tf)), (mz, aI E (60) (sf)), (my, aB E (114000) (yf)), (mr, aI E (180) (mrf)), (mn, aI E (180) (mnf)), (mw, aB E (115000) (wf)), (ja, aJ E (1) (jf))]) (As := [.int (xs (5 * k + 1)), .int (xs (5 * k + 2)), .int (xs (5 * k + 3)), .int (xs (5 * k + 4))]) (rest := []) (Spl.atP [1, 2, 3, 4, 5, 7, 8, 9, 10, 11, 12, 13, 14, 15, 16, 17] [0, 6] rfl rfl rfl) 0 rfl rfl rfl rfl (Nat.le_of_ble_eq_true rfl) (by decide) (by omega) (by omega) (fun v w h => ?_)
  obtain ⟨x237, rfl, e237, rfl⟩ := h
  change G E g ([(ip, .inr (3, [.ref ib, .int sz, .int pl])), (ib, aB E (1500) (f)), (op, .inr (4, [.ref ob, .int os])), (ob, aB E (cap) (of)), (lb, aB E (24) (lf)), (ra, aI E (180) (rf)), (m, .inr (6, [.int t0, .ref mi, .int msz, .int mpl, .int te, .ref ml, .ref mt, .ref my, .ref mz, .int nf, .ref mr, .ref mn, .int mrc, .ref mw, .int wz, .int wr])), (mi, aB E (1500) (f)), (ml, aB E (24) (mlf)), (mt, aI E (60) (tf)), (mz, aI E (60) (sf)), (my, aB E (114000) (yf)), (mr, aI E (180) (mrf)), (mn, aI E (180) (mnf)), (mw, aB E (115000) (wf)), (ja, aJ E (1) (jf)), (x, .inr (5, [.ref ip, .ref op, .ref lb, .ref fa, .ref ra, .int rc, .int pr, .int fc])), (fa, aF E (60) (ga))] ++ zz E fo fd R60) _ _ _ _ [.int x237]
  refine g_aload_n C dL_law_240 2 rfl ?_
  refine g_aload_n C dL_law_241 0 rfl ?_
  refine g_iload C dL_law_242 4 rfl ?_
  refine g_iconst C dL_law_244 (by decide) (fun x244 e244 => ?_)
  refine g_iadd C dL_law_245 (by omega) (fun x245 e245 => ?_)
  refine g_sld C hX hbl hbA dL_law_246 (5 * k + 1) (by omega) (by omega) ?_
  refine g_aload_n C dL_law_247 0 rfl ?_
  refine g_iload C dL_law_248 4 rfl ?_
  refine g_iconst C dL_law_250 (by decide) (fun x250 e250 => ?_)
  refine g_iadd C dL_law_251 (by omega) (fun x251 e251 => ?_)
  refine g_sld C hX hbl hbA dL_law_252 (5 * k + 2) (by omega) (by omega) ?_
  refine g_aload_n C dL_law_253 0 rfl ?_
  refine g_iload C dL_law_254 4 rfl ?_
  refine g_iconst C dL_law_256 (by decide) (fun x256 e256 => ?_)
  refine g_iadd C dL_law_257 (by omega) (fun x257 e257 => ?_)
  refine g_sld C hX hbl hbA dL_law_258 (5 * k + 3) (by omega) (by omega) ?_
  refine g_aload_n C dL_law_259 0 rfl ?_
  refine g_iload C dL_law_260 4 rfl ?_
  refine g_iconst C dL_law_262 (by decide) (fun x262 e262 => ?_)
  refine g_iadd C dL_law_263 (by omega) (fun x263 e263 => ?_)
  refine g_sld C hX hbl hbA dL_law_264 (5 * k + 4) (by omega) (by omega) ?_
  refine g_callV C r mv_L_45 dL_law_265 (c_X4_subfield g.l E m mt mz my tf sf yf te nf fl t0 (xs (5 * k + 1)) (xs (5 * k + 2)) (xs (5 * k + 3)) (xs (5 * k + 4)) (.ref mi) (.int msz) (.int mpl) (.ref ml) (.ref mr) (.ref mn) (.int mrc) (.ref mw) (.int wz) (.int wr) hMP hFW) (wr := ([(ip, .inr (3, [.ref ib, .int sz, .int pl])), (ib, aB E (1500) (f)), (op, .inr (4, [.ref ob, .int os])), (ob, aB E (cap) (of)), (lb, aB E (24) (lf)), (ra, aI E (180) (rf)), (mi, aB E (1500) (f)), (ml, aB E (24) (mlf)), (mr, aI E (180) (mrf)), (mn, aI E (180) (mnf)), (mw, aB E (115000) (wf)), (ja, aJ E (1) (jf)), (x, .inr (5, [.ref ip, .ref op, .ref lb, .ref fa, .ref ra, .int rc, .int pr, .int fc])), (fa, aF E (60) (ga))] ++ zz E fo fd R60)) (As := [.int (xs (5 * k + 1)), .int (xs (5 * k + 2)), .int (xs (5 * k + 3)), .int (xs (5 * k + 4))]) (rest := [.int x237]) (Spl.atZ [0, 1, 2, 3, 4, 5, 7, 8, 12, 13, 14, 15, 16, 17] [6, 9, 10, 11] rfl rfl rfl) 0 rfl rfl rfl rfl (Nat.le_of_ble_eq_true rfl) (by decide) (by omega) (by omega) (fun v w h => ?_)
  obtain ⟨x265, t1, rfl, et1, e265, rfl⟩ := h
  refine g_tail ?_
  change G E g ([(ip, .inr (3, [.ref ib, .int sz, .int pl])), (ib, aB E (1500) (f)), (op, .inr (4, [.ref ob, .int os])), (ob, aB E (cap) (of)), (lb, aB E (24) (lf)), (ra, aI E (180) (rf)), (mi, aB E (1500) (f)), (ml, aB E (24) (mlf)), (mr, aI E (180) (mrf)), (mn, aI E (180) (mnf)), (mw, aB E (115000) (wf)), (ja, aJ E (1) (jf)), (x, .inr (5, [.ref ip, .ref op, .ref lb, .ref fa, .ref ra, .int rc, .int pr, .int fc])), (fa, aF E (60) (ga)), (m, .inr (6, [.int t1, .ref mi, .int msz, .int mpl, .int te, .ref ml, .ref mt, .ref my, .ref mz, .int nf, .ref mr, .ref mn, .int mrc, .ref mw, .int wz, .int wr])), (mt, aI E (60) (tf)), (mz, aI E (60) (sf)), (my, aB E (114000) (yf))] ++ zz E fo fd R60) _ _ _ _ [.int x265, .int x237]
  refine g_icmp_eq C 544 dL_law_268 (by decide) (fun c268 => ?_) (fun c268 => ?_)
  · refine g_iinc C dL_law_544 4 rfl (by rw [hN]; decide) (by decide) (by omega) (fun x544 e544 => ?_)
    refine g_lvE (lv' := [(4, .int x544), (0, .ref bb), (1, .ref x), (2, .ref m), (3, .ref ja)]) rfl ?_
    refine g_goto C 23 dL_law_547 (by decide) ?_
    refine g_lv [1, 2, 3, 4, 0] (lv' := [(0, .ref bb), (1, .ref x), (2, .ref m), (3, .ref ja), (4, .int x544)]) rfl ?_
    refine g_permZ [12, 0, 1, 2, 3, 4, 13, 5, 14, 6, 7, 15, 16, 17, 8, 9, 10, 11] rfl (ws' := [(x, .inr (5, [.ref ip, .ref op, .ref lb, .ref fa, .ref ra, .int rc, .int pr, .int fc])), (ip, .inr (3, [.ref ib, .int sz, .int pl])), (ib, aB E (1500) (f)), (op, .inr (4, [.ref ob, .int os])), (ob, aB E (cap) (of)), (lb, aB E (24) (lf)), (fa, aF E (60) (ga)), (ra, aI E (180) (rf)), (m, .inr (6, [.int t1, .ref mi, .int msz, .int mpl, .int te, .ref ml, .ref mt, .ref my, .ref mz, .int nf, .ref mr, .ref mn, .int mrc, .ref mw, .int wz, .int wr])), (mi, aB E (1500) (f)), (ml, aB E (24) (mlf)), (mt, aI E (60) (tf)), (mz, aI E (60) (sf)), (my, aB E (114000) (yf)), (mr, aI E (180) (mrf)), (mn, aI E (180) (mnf)), (mw, aB E (115000) (wf)), (ja, aJ E (1) (jf))]) rfl rfl ?_
    exact K _ _ _ _ _ _ _ _ _ _ _ _ _ _ _ _ _ _ _ _ _ _ _ _ _ _ _ _ _ _ _ _ _ _ _ _ _ _ (by omega) (by omega) hA.up hB.up hC hD ⟨by omega, by omega⟩
  · exfalso; omega
set_option maxHeartbeats 1000000 in
set_option maxRecDepth 10000 in
theorem law_directory {E : GE} {g : Cf} {ret : Option FieldType} {xs : Nat → Int32} {bb L : Nat} {x ip ib op lb fa ra m mi ml mt mz my mr mn mw ja : Nat} {ga : Nat → Option Nat} {fo : Nat → Nat} {f of lf rf mlf tf sf yf mrf mnf wf : Nat → Int32} {jf : Nat → Int64} {fd : Nat → FV} {ob cap : Nat} {sz pl os rc pr fc t0 msz mpl te nf mrc wz wr i : Int32} {cN sN S P R : Nat} {fl : FL} {o : List Nat} {b0 : Nat → Nat} (C : Cx E g cL_law RL ret) (r : RF g 19 603072 7198826) (hT : TH g.A g.s g.s.heap) (hl : g.l.stackTraces = false) (hN : g.n = 7) (hX : va_X bb L xs g.s g.s.heap) (hbl : bb < g.s.heap.size) (hbA : ¬ g.A bb) (hga : ∀ j, j < 60 → ga j = some (fo j)) (hL : L ≤ 2560) (k : Nat) (hk : 5 * k + 5 ≤ L) (hi : i.toInt = ((5 * k : Nat) : Int)) (hA : IA k S P f sz pl msz mpl) (hB : IB k fl pr fc fd te nf tf sf yf lf mlf) (hC : IC R b0 rc mrc rf mrf) (hD : ID o cap os wz of wf) (hE : IN k P cap cN sN) (K : LK E g bb L x ip ib op lb fa ra m mi ml mt mz my mr mn mw ja ga fo (k + 1)) : G E g ([(x, .inr (5, [.ref ip, .ref op, .ref lb, .ref fa, .ref ra, .int rc, .int pr, .int fc])), (ip, .inr (3, [.ref ib, .int sz, .int pl])), (ib, aB E (1500) (f)), (op, .inr (4, [.ref ob, .int os])), (ob, aB E (cap) (of)), (lb, aB E (24) (lf)), (fa, aF E (60) (ga)), (ra, aI E (180) (rf)), (m, .inr (6, [.int t0, .ref mi, .int msz, .int mpl, .int te, .ref ml, .ref mt, .ref my, .ref mz, .int nf, .ref mr, .ref mn, .int mrc, .ref mw, .int wz, .int wr])), (mi, aB E (1500) (f)), (ml, aB E (24) (mlf)), (mt, aI E (60) (tf)), (mz, aI E (60) (sf)), (my, aB E (114000) (yf)), (mr, aI E (180) (mrf)), (mn, aI E (180) (mnf)), (mw, aB E (115000) (wf)), (ja, aJ E (1) (jf))] ++ zz E fo fd R60) cN sN 273 [(0, .ref bb), (1, .ref x), (2, .ref m), (3, .ref ja), (4, .int i)] [] := by
  have hA0 := hA
  have hB0 := hB
  have hC0 := hC
  have hD0 := hD
  obtain ⟨hS, hmS, hP, hmP, hPS, hSk, hSm, hBF⟩ := hA0
  obtain ⟨hXP, hMP, hpt, hFW, hLN, hlf⟩ := hB0
  obtain ⟨hrc, hmrc, hR, hRW, hmRW⟩ := hC0
  obtain ⟨hos, hwz, hBo, hBw, hoc, ho5, hc2, hc3⟩ := hD0
  obtain ⟨hcN, hsN⟩ := hE
  by_cases hin : 0 ≤ (xs (5 * k + 1)).toInt ∧ (xs (5 * k + 1)).toInt < (R : Int)
  · refine g_aload_n C dL_law_273 1 rfl ?_
    refine g_aload_n C dL_law_274 0 rfl ?_
    refine g_iload C dL_law_275 4 rfl ?_
    refine g_iconst C dL_law_277 (by decide) (fun x277 e277 => ?_)
    refine g_iadd C dL_law_278 (by omega) (fun x278 e278 => ?_)
    refine g_sld C hX hbl hbA dL_law_279 (5 * k + 1) (by omega) (by omega) ?_
    refine g_aload_n C dL_law_280 0 rfl ?_
    refine g_iload C dL_law_281 4 rfl ?_
    refine g_iconst C dL_law_283 (by decide) (fun x283 e283 => ?_)
    refine g_iadd C dL_law_284 (by omega) (fun x284 e284 => ?_)
    refine g_sld C hX hbl hbA dL_law_285 (5 * k + 2) (by omega) (by omega) ?_
    refine g_aload_n C dL_law_286 3 rfl ?_
    refine g_callSW C r hT sw_L_46 dL_law_287 (c_L_directory g.l hl E x ra ja rf jf rc (xs (5 * k + 1)) (xs (5 * k + 2)) R (.ref ip) (.ref op) (.ref lb) (.ref fa) (.int pr) (.int fc) hrc hR) (wr := ([(ip, .inr (3, [.ref ib, .int sz, .int pl])), (ib, aB E (1500) (f)), (op, .inr (4, [.ref ob, .int os])), (ob, aB E (cap) (of)), (lb, aB E (24) (lf)), (fa, aF E (60) (ga)), (m, .inr (6, [.int t0, .ref mi, .int msz, .int mpl, .int te, .ref ml, .ref mt, .ref my, .ref mz, .int nf, .ref mr, .ref mn, .int mrc, .ref mw, .int wz, .int wr])), (mi, aB E (1500) (f)), (ml, aB E (24) (mlf)), (mt, aI E (60) (tf)), (mz, aI E (60) (sf)), (my, aB E (114000) (yf)), (mr, aI E (180) (mrf)), (mn, aI E (180) (mnf)), (mw, aB E (115000) (wf))] ++ zz E fo fd R60)) (As := [.ref x, .int (xs (5 * k + 1)), .int (xs (5 * k + 2)), .ref ja]) (rest := []) (Spl.atZ [1, 2, 3, 4, 5, 6, 8, 9, 10, 11, 12, 13, 14, 15, 16] [0, 7, 17] rfl rfl rfl) rfl (Nat.le_of_ble_eq_true rfl) (by decide) (by omega) (by omega) (fun v w h => ?_)
    obtain ⟨x287, jf2, rfl, e287, rfl⟩ := h
    replace e287 := e287.resolve_right (fun q => q.1 hin)
    obtain ⟨_, _, e287, q287, j287, k287⟩ := e287
    refine g_tail ?_
    change G E g ([(ip, .inr (3, [.ref ib, .int sz, .int pl])), (ib, aB E (1500) (f)), (op, .inr (4, [.ref ob, .int os])), (ob, aB E (cap) (of)), (lb, aB E (24) (lf)), (fa, aF E (60) (ga)), (m, .inr (6, [.int t0, .ref mi, .int msz, .int mpl, .int te, .ref ml, .ref mt, .ref my, .ref mz, .int nf, .ref mr, .ref mn, .int mrc, .ref mw, .int wz, .int wr])), (mi, aB E (1500) (f)), (ml, aB E (24) (mlf)), (mt, aI E (60) (tf)), (mz, aI E (60) (sf)), (my, aB E (114000) (yf)), (mr, aI E (180) (mrf)), (mn, aI E (180) (mnf)), (mw, aB E (115000) (wf)), (x, .inr (5, [.ref ip, .ref op, .ref lb, .ref fa, .ref ra, .int rc, .int pr, .int fc])), (ra, aI E (180) (rf)), (ja, aJ E (1) (jf2))] ++ zz E fo fd R60) _ _ _ _ [.int x287]
    refine g_istore C dL_law_290 (by rw [hN]; decide) (lv' := [(5, .int x287), (0, .ref bb), (1, .ref x), (2, .ref m), (3, .ref ja), (4, .int i)]) rfl ?_
    refine g_aload_n C dL_law_292 3 rfl ?_
    refine g_aload_n C dL_law_293 1 rfl ?_
    refine g_iload C dL_law_294 5 rfl ?_
    refine g_iconst C dL_law_296 (by decide) (fun x296 e296 => ?_)
    refine g_iadd C dL_law_297 (by omega) (fun x297 e297 => ?_)
    refine g_sld C hX hbl hbA dL_law_298 (5 * k + 1) (by omega) (by omega) ?_
    refine g_aload_n C dL_law_299 1 rfl ?_
    refine g_iload C dL_law_300 5 rfl ?_
    refine g_iconst C dL_law_302 (by decide) (fun x302 e302 => ?_)
    refine g_iadd C dL_law_303 (by omega) (fun x303 e303 => ?_)
    refine g_sld C hX hbl hbA dL_law_304 (5 * k + 2) (by omega) (by omega) ?_
    refine g_callV C r mv_L_51 dL_law_305 (c_X4_directory g.l E m mr mrf t0 mrc (xs (5 * k + 1)) (xs (5 * k + 2)) R (.ref mi) (.int msz) (.int mpl) (.int te) (.ref ml) (.ref mt) (.ref my) (.ref mz) (.int nf) (.ref mn) (.ref mw) (.int wz) (.int wr) hmrc hR) (wr := ([(ip, .inr (3, [.ref ib, .int sz, .int pl])), (ib, aB E (1500) (f)), (op, .inr (4, [.ref ob, .int os])), (ob, aB E (cap) (of)), (lb, aB E (24) (lf)), (fa, aF E (60) (ga)), (mi, aB E (1500) (f)), (ml, aB E (24) (mlf)), (mt, aI E (60) (tf)), (mz, aI E (60) (sf)), (my, aB E (114000) (yf)), (mn, aI E (180) (mnf)), (mw, aB E (115000) (wf)), (x, .inr (5, [.ref ip, .ref op, .ref lb, .ref fa, .ref ra, .int rc, .int pr, .int fc])), (ra, aI E (180) (rf)), (ja, aJ E (1) (jf2))] ++ zz E fo fd R60)) (As := [.int (xs (5 * k + 1)), .int (xs (5 * k + 2))]) (rest := []) (Spl.atZ [0, 1, 2, 3, 4, 5, 7, 8, 9, 10, 11, 13, 14, 15, 16, 17] [6, 12] rfl rfl rfl) 0 rfl rfl rfl rfl (Nat.le_of_ble_eq_true rfl) (by decide) (by omega) (by omega) (fun v w h => ?_)
    obtain ⟨x305, t1, rfl, e305, rfl⟩ := h
    obtain ⟨_, _, et1, k305⟩ := e305.resolve_right (fun q => q.1 hin)
    clear e305
    refine g_tail ?_
    change G E g ([(ip, .inr (3, [.ref ib, .int sz, .int pl])), (ib, aB E (1500) (f)), (op, .inr (4, [.ref ob, .int os])), (ob, aB E (cap) (of)), (lb, aB E (24) (lf)), (fa, aF E (60) (ga)), (mi, aB E (1500) (f)), (ml, aB E (24) (mlf)), (mt, aI E (60) (tf)), (mz, aI E (60) (sf)), (my, aB E (114000) (yf)), (mn, aI E (180) (mnf)), (mw, aB E (115000) (wf)), (x, .inr (5, [.ref ip, .ref op, .ref lb, .ref fa, .ref ra, .int rc, .int pr, .int fc])), (ra, aI E (180) (rf)), (ja, aJ E (1) (jf2)), (m, .inr (6, [.int t1, .ref mi, .int msz, .int mpl, .int te, .ref ml, .ref mt, .ref my, .ref mz, .int nf, .ref mr, .ref mn, .int mrc, .ref mw, .int wz, .int wr])), (mr, aI E (180) (mrf))] ++ zz E fo fd R60) _ _ _ _ [.int x305]
    refine g_istore C dL_law_308 (by rw [hN]; decide) (lv' := [(6, .int x305), (5, .int x287), (0, .ref bb), (1, .ref x), (2, .ref m), (3, .ref ja), (4, .int i)]) rfl ?_
    refine g_aload_n C dL_law_310 4 rfl ?_
    refine g_callV C r mv_L_52 dL_law_311 (c_X4_thrown g.l E m t1 (.ref mi) (.int msz) (.int mpl) (.int te) (.ref ml) (.ref mt) (.ref my) (.ref mz) (.int nf) (.ref mr) (.ref mn) (.int mrc) (.ref mw) (.int wz) (.int wr) ) (wr := ([(ip, .inr (3, [.ref ib, .int sz, .int pl])), (ib, aB E (1500) (f)), (op, .inr (4, [.ref ob, .int os])), (ob, aB E (cap) (of)), (lb, aB E (24) (lf)), (fa, aF E (60) (ga)), (mi, aB E (1500) (f)), (ml, aB E (24) (mlf)), (mt, aI E (60) (tf)), (mz, aI E (60) (sf)), (my, aB E (114000) (yf)), (mn, aI E (180) (mnf)), (mw, aB E (115000) (wf)), (x, .inr (5, [.ref ip, .ref op, .ref lb, .ref fa, .ref ra, .int rc, .int pr, .int fc])), (ra, aI E (180) (rf)), (ja, aJ E (1) (jf2)), (mr, aI E (180) (mrf))] ++ zz E fo fd R60)) (As := []) (rest := []) (Spl.atZ [0, 1, 2, 3, 4, 5, 6, 7, 8, 9, 10, 11, 12, 13, 14, 15, 17] [16] rfl rfl rfl) 0 rfl rfl rfl rfl (Nat.le_of_ble_eq_true rfl) (by decide) (by omega) (by omega) (fun v w h => ?_)
    obtain ⟨x311, rfl, e311, rfl⟩ := h
    refine g_tail ?_
    change G E g ([(ip, .inr (3, [.ref ib, .int sz, .int pl])), (ib, aB E (1500) (f)), (op, .inr (4, [.ref ob, .int os])), (ob, aB E (cap) (of)), (lb, aB E (24) (lf)), (fa, aF E (60) (ga)), (mi, aB E (1500) (f)), (ml, aB E (24) (mlf)), (mt, aI E (60) (tf)), (mz, aI E (60) (sf)), (my, aB E (114000) (yf)), (mn, aI E (180) (mnf)), (mw, aB E (115000) (wf)), (x, .inr (5, [.ref ip, .ref op, .ref lb, .ref fa, .ref ra, .int rc, .int pr, .int fc])), (ra, aI E (180) (rf)), (ja, aJ E (1) (jf2)), (mr, aI E (180) (mrf)), (m, .inr (6, [.int t1, .ref mi, .int msz, .int mpl, .int te, .ref ml, .ref mt, .ref my, .ref mz, .int nf, .ref mr, .ref mn, .int mrc, .ref mw, .int wz, .int wr]))] ++ zz E fo fd R60) _ _ _ _ [.int x311]
    replace e311 := congrArg Int32.toInt e311
    refine g_iload C dL_law_314 1 rfl ?_
    refine g_icmp_eq C 321 dL_law_316 (by decide) (fun c316 => ?_) (fun c316 => ?_)
    · refine g_iload C dL_law_321 1 rfl ?_
      refine g_if_ne C 338 dL_law_323 (by decide) (fun c323 => ?_) (fun c323 => ?_)
      · refine g_goto C 544 dL_law_338 (by decide) ?_
        refine g_iinc C dL_law_544 6 rfl (by rw [hN]; decide) (by decide) (by omega) (fun x544 e544 => ?_)
        refine g_lvE (lv' := [(4, .int x544), (6, .int x305), (5, .int x287), (0, .ref bb), (1, .ref x), (2, .ref m), (3, .ref ja)]) rfl ?_
        refine g_goto C 23 dL_law_547 (by decide) ?_
        refine g_lv [3, 4, 5, 6, 0] (lv' := [(0, .ref bb), (1, .ref x), (2, .ref m), (3, .ref ja), (4, .int x544)]) rfl ?_
        refine g_permZ [13, 0, 1, 2, 3, 4, 5, 14, 17, 6, 7, 8, 9, 10, 16, 11, 12, 15] rfl (ws' := [(x, .inr (5, [.ref ip, .ref op, .ref lb, .ref fa, .ref ra, .int rc, .int pr, .int fc])), (ip, .inr (3, [.ref ib, .int sz, .int pl])), (ib, aB E (1500) (f)), (op, .inr (4, [.ref ob, .int os])), (ob, aB E (cap) (of)), (lb, aB E (24) (lf)), (fa, aF E (60) (ga)), (ra, aI E (180) (rf)), (m, .inr (6, [.int t1, .ref mi, .int msz, .int mpl, .int te, .ref ml, .ref mt, .ref my, .ref mz, .int nf, .ref mr, .ref mn, .int mrc, .ref mw, .int wz, .int wr])), (mi, aB E (1500) (f)), (ml, aB E (24) (mlf)), (mt, aI E (60) (tf)), (mz, aI E (60) (sf)), (my, aB E (114000) (yf)), (mr, aI E (180) (mrf)), (mn, aI E (180) (mnf)), (mw, aB E (115000) (wf)), (ja, aJ E (1) (jf2))]) rfl rfl ?_
        exact K _ _ _ _ _ _ _ _ _ _ _ _ _ _ _ _ _ _ _ _ _ _ _ _ _ _ _ _ _ _ _ _ _ _ _ _ _ _ (by omega) (by omega) hA.up hB.up hC hD ⟨by omega, by omega⟩
      · refine g_aload_n C dL_law_326 5 rfl ?_
        refine g_iconst C dL_law_327 (by decide) (fun x327 e327 => ?_)
        refine g_laload C 15 rfl dL_law_328 0 (by omega) (by omega) ?_
        refine g_iload C dL_law_329 0 rfl ?_
        refine g_i2l C dL_law_331 ?_
        refine g_lcmp C dL_law_332 (fun x332 e332 => ?_)
        refine g_if_eq C 338 dL_law_333 (by decide) (fun c333 => ?_) (fun c333 => ?_)
        · refine g_goto C 544 dL_law_338 (by decide) ?_
          refine g_iinc C dL_law_544 6 rfl (by rw [hN]; decide) (by decide) (by omega) (fun x544 e544 => ?_)
          refine g_lvE (lv' := [(4, .int x544), (6, .int x305), (5, .int x287), (0, .ref bb), (1, .ref x), (2, .ref m), (3, .ref ja)]) rfl ?_
          refine g_goto C 23 dL_law_547 (by decide) ?_
          refine g_lv [3, 4, 5, 6, 0] (lv' := [(0, .ref bb), (1, .ref x), (2, .ref m), (3, .ref ja), (4, .int x544)]) rfl ?_
          refine g_permZ [13, 0, 1, 2, 3, 4, 5, 14, 17, 6, 7, 8, 9, 10, 16, 11, 12, 15] rfl (ws' := [(x, .inr (5, [.ref ip, .ref op, .ref lb, .ref fa, .ref ra, .int rc, .int pr, .int fc])), (ip, .inr (3, [.ref ib, .int sz, .int pl])), (ib, aB E (1500) (f)), (op, .inr (4, [.ref ob, .int os])), (ob, aB E (cap) (of)), (lb, aB E (24) (lf)), (fa, aF E (60) (ga)), (ra, aI E (180) (rf)), (m, .inr (6, [.int t1, .ref mi, .int msz, .int mpl, .int te, .ref ml, .ref mt, .ref my, .ref mz, .int nf, .ref mr, .ref mn, .int mrc, .ref mw, .int wz, .int wr])), (mi, aB E (1500) (f)), (ml, aB E (24) (mlf)), (mt, aI E (60) (tf)), (mz, aI E (60) (sf)), (my, aB E (114000) (yf)), (mr, aI E (180) (mrf)), (mn, aI E (180) (mnf)), (mw, aB E (115000) (wf)), (ja, aJ E (1) (jf2))]) rfl rfl ?_
          exact K _ _ _ _ _ _ _ _ _ _ _ _ _ _ _ _ _ _ _ _ _ _ _ _ _ _ _ _ _ _ _ _ _ _ _ _ _ _ (by omega) (by omega) hA.up hB.up hC hD ⟨by omega, by omega⟩
        · first | (exfalso; omega) | exact absurd (e332 (by rw [j287, law_dir hRW hmRW hin k287 k305])) c333
    · exfalso; omega
  · refine g_aload_n C dL_law_273 1 rfl ?_
    refine g_aload_n C dL_law_274 0 rfl ?_
    refine g_iload C dL_law_275 4 rfl ?_
    refine g_iconst C dL_law_277 (by decide) (fun x277 e277 => ?_)
    refine g_iadd C dL_law_278 (by omega) (fun x278 e278 => ?_)
    refine g_sld C hX hbl hbA dL_law_279 (5 * k + 1) (by omega) (by omega) ?_
    refine g_aload_n C dL_law_280 0 rfl ?_
    refine g_iload C dL_law_281 4 rfl ?_
    refine g_iconst C dL_law_283 (by decide) (fun x283 e283 => ?_)
    refine g_iadd C dL_law_284 (by omega) (fun x284 e284 => ?_)
    refine g_sld C hX hbl hbA dL_law_285 (5 * k + 2) (by omega) (by omega) ?_
    refine g_aload_n C dL_law_286 3 rfl ?_
    refine g_callSW C r hT sw_L_46 dL_law_287 (c_L_directory g.l hl E x ra ja rf jf rc (xs (5 * k + 1)) (xs (5 * k + 2)) R (.ref ip) (.ref op) (.ref lb) (.ref fa) (.int pr) (.int fc) hrc hR) (wr := ([(ip, .inr (3, [.ref ib, .int sz, .int pl])), (ib, aB E (1500) (f)), (op, .inr (4, [.ref ob, .int os])), (ob, aB E (cap) (of)), (lb, aB E (24) (lf)), (fa, aF E (60) (ga)), (m, .inr (6, [.int t0, .ref mi, .int msz, .int mpl, .int te, .ref ml, .ref mt, .ref my, .ref mz, .int nf, .ref mr, .ref mn, .int mrc, .ref mw, .int wz, .int wr])), (mi, aB E (1500) (f)), (ml, aB E (24) (mlf)), (mt, aI E (60) (tf)), (mz, aI E (60) (sf)), (my, aB E (114000) (yf)), (mr, aI E (180) (mrf)), (mn, aI E (180) (mnf)), (mw, aB E (115000) (wf))] ++ zz E fo fd R60)) (As := [.ref x, .int (xs (5 * k + 1)), .int (xs (5 * k + 2)), .ref ja]) (rest := []) (Spl.atZ [1, 2, 3, 4, 5, 6, 8, 9, 10, 11, 12, 13, 14, 15, 16] [0, 7, 17] rfl rfl rfl) rfl (Nat.le_of_ble_eq_true rfl) (by decide) (by omega) (by omega) (fun v w h => ?_)
    obtain ⟨x287, jf2, rfl, e287, rfl⟩ := h
    replace e287 := (e287.resolve_left (fun q => hin ⟨q.1, q.2.1⟩)).2
    refine g_tail ?_
    change G E g ([(ip, .inr (3, [.ref ib, .int sz, .int pl])), (ib, aB E (1500) (f)), (op, .inr (4, [.ref ob, .int os])), (ob, aB E (cap) (of)), (lb, aB E (24) (lf)), (fa, aF E (60) (ga)), (m, .inr (6, [.int t0, .ref mi, .int msz, .int mpl, .int te, .ref ml, .ref mt, .ref my, .ref mz, .int nf, .ref mr, .ref mn, .int mrc, .ref mw, .int wz, .int wr])), (mi, aB E (1500) (f)), (ml, aB E (24) (mlf)), (mt, aI E (60) (tf)), (mz, aI E (60) (sf)), (my, aB E (114000) (yf)), (mr, aI E (180) (mrf)), (mn, aI E (180) (mnf)), (mw, aB E (115000) (wf)), (x, .inr (5, [.ref ip, .ref op, .ref lb, .ref fa, .ref ra, .int rc, .int pr, .int fc])), (ra, aI E (180) (rf)), (ja, aJ E (1) (jf2))] ++ zz E fo fd R60) _ _ _ _ [.int x287]
    refine g_istore C dL_law_290 (by rw [hN]; decide) (lv' := [(5, .int x287), (0, .ref bb), (1, .ref x), (2, .ref m), (3, .ref ja), (4, .int i)]) rfl ?_
    refine g_aload_n C dL_law_292 3 rfl ?_
    refine g_aload_n C dL_law_293 1 rfl ?_
    refine g_iload C dL_law_294 5 rfl ?_
    refine g_iconst C dL_law_296 (by decide) (fun x296 e296 => ?_)
    refine g_iadd C dL_law_297 (by omega) (fun x297 e297 => ?_)
    refine g_sld C hX hbl hbA dL_law_298 (5 * k + 1) (by omega) (by omega) ?_
    refine g_aload_n C dL_law_299 1 rfl ?_
    refine g_iload C dL_law_300 5 rfl ?_
    refine g_iconst C dL_law_302 (by decide) (fun x302 e302 => ?_)
    refine g_iadd C dL_law_303 (by omega) (fun x303 e303 => ?_)
    refine g_sld C hX hbl hbA dL_law_304 (5 * k + 2) (by omega) (by omega) ?_
    refine g_callV C r mv_L_51 dL_law_305 (c_X4_directory g.l E m mr mrf t0 mrc (xs (5 * k + 1)) (xs (5 * k + 2)) R (.ref mi) (.int msz) (.int mpl) (.int te) (.ref ml) (.ref mt) (.ref my) (.ref mz) (.int nf) (.ref mn) (.ref mw) (.int wz) (.int wr) hmrc hR) (wr := ([(ip, .inr (3, [.ref ib, .int sz, .int pl])), (ib, aB E (1500) (f)), (op, .inr (4, [.ref ob, .int os])), (ob, aB E (cap) (of)), (lb, aB E (24) (lf)), (fa, aF E (60) (ga)), (mi, aB E (1500) (f)), (ml, aB E (24) (mlf)), (mt, aI E (60) (tf)), (mz, aI E (60) (sf)), (my, aB E (114000) (yf)), (mn, aI E (180) (mnf)), (mw, aB E (115000) (wf)), (x, .inr (5, [.ref ip, .ref op, .ref lb, .ref fa, .ref ra, .int rc, .int pr, .int fc])), (ra, aI E (180) (rf)), (ja, aJ E (1) (jf2))] ++ zz E fo fd R60)) (As := [.int (xs (5 * k + 1)), .int (xs (5 * k + 2))]) (rest := []) (Spl.atZ [0, 1, 2, 3, 4, 5, 7, 8, 9, 10, 11, 13, 14, 15, 16, 17] [6, 12] rfl rfl rfl) 0 rfl rfl rfl rfl (Nat.le_of_ble_eq_true rfl) (by decide) (by omega) (by omega) (fun v w h => ?_)
    obtain ⟨x305, t1, rfl, e305, rfl⟩ := h
    obtain ⟨_, et1, _⟩ := e305.resolve_left (fun q => hin ⟨q.1, q.2.1⟩)
    clear e305
    refine g_tail ?_
    change G E g ([(ip, .inr (3, [.ref ib, .int sz, .int pl])), (ib, aB E (1500) (f)), (op, .inr (4, [.ref ob, .int os])), (ob, aB E (cap) (of)), (lb, aB E (24) (lf)), (fa, aF E (60) (ga)), (mi, aB E (1500) (f)), (ml, aB E (24) (mlf)), (mt, aI E (60) (tf)), (mz, aI E (60) (sf)), (my, aB E (114000) (yf)), (mn, aI E (180) (mnf)), (mw, aB E (115000) (wf)), (x, .inr (5, [.ref ip, .ref op, .ref lb, .ref fa, .ref ra, .int rc, .int pr, .int fc])), (ra, aI E (180) (rf)), (ja, aJ E (1) (jf2)), (m, .inr (6, [.int t1, .ref mi, .int msz, .int mpl, .int te, .ref ml, .ref mt, .ref my, .ref mz, .int nf, .ref mr, .ref mn, .int mrc, .ref mw, .int wz, .int wr])), (mr, aI E (180) (mrf))] ++ zz E fo fd R60) _ _ _ _ [.int x305]
    refine g_istore C dL_law_308 (by rw [hN]; decide) (lv' := [(6, .int x305), (5, .int x287), (0, .ref bb), (1, .ref x), (2, .ref m), (3, .ref ja), (4, .int i)]) rfl ?_
    refine g_aload_n C dL_law_310 4 rfl ?_
    refine g_callV C r mv_L_52 dL_law_311 (c_X4_thrown g.l E m t1 (.ref mi) (.int msz) (.int mpl) (.int te) (.ref ml) (.ref mt) (.ref my) (.ref mz) (.int nf) (.ref mr) (.ref mn) (.int mrc) (.ref mw) (.int wz) (.int wr) ) (wr := ([(ip, .inr (3, [.ref ib, .int sz, .int pl])), (ib, aB E (1500) (f)), (op, .inr (4, [.ref ob, .int os])), (ob, aB E (cap) (of)), (lb, aB E (24) (lf)), (fa, aF E (60) (ga)), (mi, aB E (1500) (f)), (ml, aB E (24) (mlf)), (mt, aI E (60) (tf)), (mz, aI E (60) (sf)), (my, aB E (114000) (yf)), (mn, aI E (180) (mnf)), (mw, aB E (115000) (wf)), (x, .inr (5, [.ref ip, .ref op, .ref lb, .ref fa, .ref ra, .int rc, .int pr, .int fc])), (ra, aI E (180) (rf)), (ja, aJ E (1) (jf2)), (mr, aI E (180) (mrf))] ++ zz E fo fd R60)) (As := []) (rest := []) (Spl.atZ [0, 1, 2, 3, 4, 5, 6, 7, 8, 9, 10, 11, 12, 13, 14, 15, 17] [16] rfl rfl rfl) 0 rfl rfl rfl rfl (Nat.le_of_ble_eq_true rfl) (by decide) (by omega) (by omega) (fun v w h => ?_)
    obtain ⟨x311, rfl, e311, rfl⟩ := h
    refine g_tail ?_
    change G E g ([(ip, .inr (3, [.ref ib, .int sz, .int pl])), (ib, aB E (1500) (f)), (op, .inr (4, [.ref ob, .int os])), (ob, aB E (cap) (of)), (lb, aB E (24) (lf)), (fa, aF E (60) (ga)), (mi, aB E (1500) (f)), (ml, aB E (24) (mlf)), (mt, aI E (60) (tf)), (mz, aI E (60) (sf)), (my, aB E (114000) (yf)), (mn, aI E (180) (mnf)), (mw, aB E (115000) (wf)), (x, .inr (5, [.ref ip, .ref op, .ref lb, .ref fa, .ref ra, .int rc, .int pr, .int fc])), (ra, aI E (180) (rf)), (ja, aJ E (1) (jf2)), (mr, aI E (180) (mrf)), (m, .inr (6, [.int t1, .ref mi, .int msz, .int mpl, .int te, .ref ml, .ref mt, .ref my, .ref mz, .int nf, .ref mr, .ref mn, .int mrc, .ref mw, .int wz, .int wr]))] ++ zz E fo fd R60) _ _ _ _ [.int x311]
    replace e311 := congrArg Int32.toInt e311
    refine g_iload C dL_law_314 1 rfl ?_
    refine g_icmp_eq C 321 dL_law_316 (by decide) (fun c316 => ?_) (fun c316 => ?_)
    · refine g_iload C dL_law_321 1 rfl ?_
      refine g_if_ne C 338 dL_law_323 (by decide) (fun c323 => ?_) (fun c323 => ?_)
      · refine g_goto C 544 dL_law_338 (by decide) ?_
        refine g_iinc C dL_law_544 6 rfl (by rw [hN]; decide) (by decide) (by omega) (fun x544 e544 => ?_)
        refine g_lvE (lv' := [(4, .int x544), (6, .int x305), (5, .int x287), (0, .ref bb), (1, .ref x), (2, .ref m), (3, .ref ja)]) rfl ?_
        refine g_goto C 23 dL_law_547 (by decide) ?_
        refine g_lv [3, 4, 5, 6, 0] (lv' := [(0, .ref bb), (1, .ref x), (2, .ref m), (3, .ref ja), (4, .int x544)]) rfl ?_
        refine g_permZ [13, 0, 1, 2, 3, 4, 5, 14, 17, 6, 7, 8, 9, 10, 16, 11, 12, 15] rfl (ws' := [(x, .inr (5, [.ref ip, .ref op, .ref lb, .ref fa, .ref ra, .int rc, .int pr, .int fc])), (ip, .inr (3, [.ref ib, .int sz, .int pl])), (ib, aB E (1500) (f)), (op, .inr (4, [.ref ob, .int os])), (ob, aB E (cap) (of)), (lb, aB E (24) (lf)), (fa, aF E (60) (ga)), (ra, aI E (180) (rf)), (m, .inr (6, [.int t1, .ref mi, .int msz, .int mpl, .int te, .ref ml, .ref mt, .ref my, .ref mz, .int nf, .ref mr, .ref mn, .int mrc, .ref mw, .int wz, .int wr])), (mi, aB E (1500) (f)), (ml, aB E (24) (mlf)), (mt, aI E (60) (tf)), (mz, aI E (60) (sf)), (my, aB E (114000) (yf)), (mr, aI E (180) (mrf)), (mn, aI E (180) (mnf)), (mw, aB E (115000) (wf)), (ja, aJ E (1) (jf2))]) rfl rfl ?_
        exact K _ _ _ _ _ _ _ _ _ _ _ _ _ _ _ _ _ _ _ _ _ _ _ _ _ _ _ _ _ _ _ _ _ _ _ _ _ _ (by omega) (by omega) hA.up hB.up hC hD ⟨by omega, by omega⟩
      · refine g_aload_n C dL_law_326 5 rfl ?_
        refine g_iconst C dL_law_327 (by decide) (fun x327 e327 => ?_)
        refine g_laload C 15 rfl dL_law_328 0 (by omega) (by omega) ?_
        refine g_iload C dL_law_329 0 rfl ?_
        refine g_i2l C dL_law_331 ?_
        refine g_lcmp C dL_law_332 (fun x332 e332 => ?_)
        refine g_if_eq C 338 dL_law_333 (by decide) (fun c333 => ?_) (fun c333 => ?_)
        · refine g_goto C 544 dL_law_338 (by decide) ?_
          refine g_iinc C dL_law_544 6 rfl (by rw [hN]; decide) (by decide) (by omega) (fun x544 e544 => ?_)
          refine g_lvE (lv' := [(4, .int x544), (6, .int x305), (5, .int x287), (0, .ref bb), (1, .ref x), (2, .ref m), (3, .ref ja)]) rfl ?_
          refine g_goto C 23 dL_law_547 (by decide) ?_
          refine g_lv [3, 4, 5, 6, 0] (lv' := [(0, .ref bb), (1, .ref x), (2, .ref m), (3, .ref ja), (4, .int x544)]) rfl ?_
          refine g_permZ [13, 0, 1, 2, 3, 4, 5, 14, 17, 6, 7, 8, 9, 10, 16, 11, 12, 15] rfl (ws' := [(x, .inr (5, [.ref ip, .ref op, .ref lb, .ref fa, .ref ra, .int rc, .int pr, .int fc])), (ip, .inr (3, [.ref ib, .int sz, .int pl])), (ib, aB E (1500) (f)), (op, .inr (4, [.ref ob, .int os])), (ob, aB E (cap) (of)), (lb, aB E (24) (lf)), (fa, aF E (60) (ga)), (ra, aI E (180) (rf)), (m, .inr (6, [.int t1, .ref mi, .int msz, .int mpl, .int te, .ref ml, .ref mt, .ref my, .ref mz, .int nf, .ref mr, .ref mn, .int mrc, .ref mw, .int wz, .int wr])), (mi, aB E (1500) (f)), (ml, aB E (24) (mlf)), (mt, aI E (60) (tf)), (mz, aI E (60) (sf)), (my, aB E (114000) (yf)), (mr, aI E (180) (mrf)), (mn, aI E (180) (mnf)), (mw, aB E (115000) (wf)), (ja, aJ E (1) (jf2))]) rfl rfl ?_
          exact K _ _ _ _ _ _ _ _ _ _ _ _ _ _ _ _ _ _ _ _ _ _ _ _ _ _ _ _ _ _ _ _ _ _ _ _ _ _ (by omega) (by omega) hA.up hB.up hC hD ⟨by omega, by omega⟩
        · first | (exfalso; omega) | exact absurd (e332 (by rw [j287, law_dir hRW hmRW hin k287 k305])) c333
    · exfalso; omega
set_option maxHeartbeats 1000000 in
set_option maxRecDepth 10000 in
theorem law_octet {E : GE} {g : Cf} {ret : Option FieldType} {xs : Nat → Int32} {bb L : Nat} {x ip ib op lb fa ra m mi ml mt mz my mr mn mw ja : Nat} {ga : Nat → Option Nat} {fo : Nat → Nat} {f of lf rf mlf tf sf yf mrf mnf wf : Nat → Int32} {jf : Nat → Int64} {fd : Nat → FV} {ob cap : Nat} {sz pl os rc pr fc t0 msz mpl te nf mrc wz wr i : Int32} {cN sN S P R : Nat} {fl : FL} {o : List Nat} {b0 : Nat → Nat} (C : Cx E g cL_law RL ret) (r : RF g 19 603072 7198826) (hT : TH g.A g.s g.s.heap) (hl : g.l.stackTraces = false) (hN : g.n = 7) (hX : va_X bb L xs g.s g.s.heap) (hbl : bb < g.s.heap.size) (hbA : ¬ g.A bb) (hga : ∀ j, j < 60 → ga j = some (fo j)) (hL : L ≤ 2560) (k : Nat) (hk : 5 * k + 5 ≤ L) (hi : i.toInt = ((5 * k : Nat) : Int)) (hA : IA k S P f sz pl msz mpl) (hB : IB k fl pr fc fd te nf tf sf yf lf mlf) (hC : IC R b0 rc mrc rf mrf) (hD : ID o cap os wz of wf) (hE : IN k P cap cN sN) (K : LK E g bb L x ip ib op lb fa ra m mi ml mt mz my mr mn mw ja ga fo (k + 1)) : G E g ([(x, .inr (5, [.ref ip, .ref op, .ref lb, .ref fa, .ref ra, .int rc, .int pr, .int fc])), (ip, .inr (3, [.ref ib, .int sz, .int pl])), (ib, aB E (1500) (f)), (op, .inr (4, [.ref ob, .int os])), (ob, aB E (cap) (of)), (lb, aB E (24) (lf)), (fa, aF E (60) (ga)), (ra, aI E (180) (rf)), (m, .inr (6, [.int t0, .ref mi, .int msz, .int mpl, .int te, .ref ml, .ref mt, .ref my, .ref mz, .int nf, .ref mr, .ref mn, .int mrc, .ref mw, .int wz, .int wr])), (mi, aB E (1500) (f)), (ml, aB E (24) (mlf)), (mt, aI E (60) (tf)), (mz, aI E (60) (sf)), (my, aB E (114000) (yf)), (mr, aI E (180) (mrf)), (mn, aI E (180) (mnf)), (mw, aB E (115000) (wf)), (ja, aJ E (1) (jf))] ++ zz E fo fd R60) cN sN 488 [(0, .ref bb), (1, .ref x), (2, .ref m), (3, .ref ja), (4, .int i)] [] := by
  have hA0 := hA
  have hB0 := hB
  have hC0 := hC
  have hD0 := hD
  obtain ⟨hS, hmS, hP, hmP, hPS, hSk, hSm, hBF⟩ := hA0
  obtain ⟨hXP, hMP, hpt, hFW, hLN, hlf⟩ := hB0
  obtain ⟨hrc, hmrc, hR, hRW, hmRW⟩ := hC0
  obtain ⟨hos, hwz, hBo, hBw, hoc, ho5, hc2, hc3⟩ := hD0
  obtain ⟨hcN, hsN⟩ := hE
  by_cases hin : 0 ≤ (xs (5 * k + 1)).toInt ∧ (xs (5 * k + 1)).toInt < (o.length : Int)
  · refine g_aload_n C dL_law_488 1 rfl ?_
    refine g_aload_n C dL_law_489 0 rfl ?_
    refine g_iload C dL_law_490 4 rfl ?_
    refine g_iconst C dL_law_492 (by decide) (fun x492 e492 => ?_)
    refine g_iadd C dL_law_493 (by omega) (fun x493 e493 => ?_)
    refine g_sld C hX hbl hbA dL_law_494 (5 * k + 1) (by omega) (by omega) ?_
    refine g_aload_n C dL_law_495 3 rfl ?_
    refine g_callSW C r hT sw_L_77 dL_law_496 (c_L_octet g.l hl E x op ob cap ja of jf os (xs (5 * k + 1)) o (.ref ip) (.ref lb) (.ref fa) (.ref ra) (.int rc) (.int pr) (.int fc) hos hBo hoc) (wr := ([(ip, .inr (3, [.ref ib, .int sz, .int pl])), (ib, aB E (1500) (f)), (lb, aB E (24) (lf)), (fa, aF E (60) (ga)), (ra, aI E (180) (rf)), (m, .inr (6, [.int t0, .ref mi, .int msz, .int mpl, .int te, .ref ml, .ref mt, .ref my, .ref mz, .int nf, .ref mr, .ref mn, .int mrc, .ref mw, .int wz, .int wr])), (mi, aB E (1500) (f)), (ml, aB E (24) (mlf)), (mt, aI E (60) (tf)), (mz, aI E (60) (sf)), (my, aB E (114000) (yf)), (mr, aI E (180) (mrf)), (mn, aI E (180) (mnf)), (mw, aB E (115000) (wf))] ++ zz E fo fd R60)) (As := [.ref x, .int (xs (5 * k + 1)), .ref ja]) (rest := []) (Spl.atZ [1, 2, 5, 6, 7, 8, 9, 10, 11, 12, 13, 14, 15, 16] [0, 3, 4, 17] rfl rfl rfl) rfl (Nat.le_of_ble_eq_true rfl) (by decide) (by omega) (by omega) (fun v w h => ?_)
    obtain ⟨x496, jf2, rfl, e496, rfl⟩ := h
    replace e496 := e496.resolve_right (fun q => q.1 hin)
    obtain ⟨_, _, e496, j496⟩ := e496
    refine g_tail ?_
    change G E g ([(ip, .inr (3, [.ref ib, .int sz, .int pl])), (ib, aB E (1500) (f)), (lb, aB E (24) (lf)), (fa, aF E (60) (ga)), (ra, aI E (180) (rf)), (m, .inr (6, [.int t0, .ref mi, .int msz, .int mpl, .int te, .ref ml, .ref mt, .ref my, .ref mz, .int nf, .ref mr, .ref mn, .int mrc, .ref mw, .int wz, .int wr])), (mi, aB E (1500) (f)), (ml, aB E (24) (mlf)), (mt, aI E (60) (tf)), (mz, aI E (60) (sf)), (my, aB E (114000) (yf)), (mr, aI E (180) (mrf)), (mn, aI E (180) (mnf)), (mw, aB E (115000) (wf)), (x, .inr (5, [.ref ip, .ref op, .ref lb, .ref fa, .ref ra, .int rc, .int pr, .int fc])), (op, .inr (4, [.ref ob, .int os])), (ob, aB E (cap) (of)), (ja, aJ E (1) (jf2))] ++ zz E fo fd R60) _ _ _ _ [.int x496]
    refine g_istore C dL_law_499 (by rw [hN]; decide) (lv' := [(5, .int x496), (0, .ref bb), (1, .ref x), (2, .ref m), (3, .ref ja), (4, .int i)]) rfl ?_
    refine g_aload_n C dL_law_501 3 rfl ?_
    refine g_aload_n C dL_law_502 1 rfl ?_
    refine g_iload C dL_law_503 5 rfl ?_
    refine g_iconst C dL_law_505 (by decide) (fun x505 e505 => ?_)
    refine g_iadd C dL_law_506 (by omega) (fun x506 e506 => ?_)
    refine g_sld C hX hbl hbA dL_law_507 (5 * k + 1) (by omega) (by omega) ?_
    refine g_callV C r mv_L_80 dL_law_508 (c_X4_octet g.l E m mw wf t0 wz (xs (5 * k + 1)) o (.ref mi) (.int msz) (.int mpl) (.int te) (.ref ml) (.ref mt) (.ref my) (.ref mz) (.int nf) (.ref mr) (.ref mn) (.int mrc) (.int wr) hwz ho5 hBw) (wr := ([(ip, .inr (3, [.ref ib, .int sz, .int pl])), (ib, aB E (1500) (f)), (lb, aB E (24) (lf)), (fa, aF E (60) (ga)), (ra, aI E (180) (rf)), (mi, aB E (1500) (f)), (ml, aB E (24) (mlf)), (mt, aI E (60) (tf)), (mz, aI E (60) (sf)), (my, aB E (114000) (yf)), (mr, aI E (180) (mrf)), (mn, aI E (180) (mnf)), (x, .inr (5, [.ref ip, .ref op, .ref lb, .ref fa, .ref ra, .int rc, .int pr, .int fc])), (op, .inr (4, [.ref ob, .int os])), (ob, aB E (cap) (of)), (ja, aJ E (1) (jf2))] ++ zz E fo fd R60)) (As := [.int (xs (5 * k + 1))]) (rest := []) (Spl.atZ [0, 1, 2, 3, 4, 6, 7, 8, 9, 10, 11, 12, 14, 15, 16, 17] [5, 13] rfl rfl rfl) 0 rfl rfl rfl rfl (Nat.le_of_ble_eq_true rfl) (by decide) (by omega) (by omega) (fun v w h => ?_)
    obtain ⟨x508, t1, rfl, e508, rfl⟩ := h
    obtain ⟨_, _, et1, k508⟩ := e508.resolve_right (fun q => q.1 hin)
    clear e508
    refine g_tail ?_
    change G E g ([(ip, .inr (3, [.ref ib, .int sz, .int pl])), (ib, aB E (1500) (f)), (lb, aB E (24) (lf)), (fa, aF E (60) (ga)), (ra, aI E (180) (rf)), (mi, aB E (1500) (f)), (ml, aB E (24) (mlf)), (mt, aI E (60) (tf)), (mz, aI E (60) (sf)), (my, aB E (114000) (yf)), (mr, aI E (180) (mrf)), (mn, aI E (180) (mnf)), (x, .inr (5, [.ref ip, .ref op, .ref lb, .ref fa, .ref ra, .int rc, .int pr, .int fc])), (op, .inr (4, [.ref ob, .int os])), (ob, aB E (cap) (of)), (ja, aJ E (1) (jf2)), (m, .inr (6, [.int t1, .ref mi, .int msz, .int mpl, .int te, .ref ml, .ref mt, .ref my, .ref mz, .int nf, .ref mr, .ref mn, .int mrc, .ref mw, .int wz, .int wr])), (mw, aB E (115000) (wf))] ++ zz E fo fd R60) _ _ _ _ [.int x508]
    refine g_istore C dL_law_511 (by rw [hN]; decide) (lv' := [(6, .int x508), (5, .int x496), (0, .ref bb), (1, .ref x), (2, .ref m), (3, .ref ja), (4, .int i)]) rfl ?_
    refine g_aload_n C dL_law_513 4 rfl ?_
    refine g_callV C r mv_L_52 dL_law_514 (c_X4_thrown g.l E m t1 (.ref mi) (.int msz) (.int mpl) (.int te) (.ref ml) (.ref mt) (.ref my) (.ref mz) (.int nf) (.ref mr) (.ref mn) (.int mrc) (.ref mw) (.int wz) (.int wr) ) (wr := ([(ip, .inr (3, [.ref ib, .int sz, .int pl])), (ib, aB E (1500) (f)), (lb, aB E (24) (lf)), (fa, aF E (60) (ga)), (ra, aI E (180) (rf)), (mi, aB E (1500) (f)), (ml, aB E (24) (mlf)), (mt, aI E (60) (tf)), (mz, aI E (60) (sf)), (my, aB E (114000) (yf)), (mr, aI E (180) (mrf)), (mn, aI E (180) (mnf)), (x, .inr (5, [.ref ip, .ref op, .ref lb, .ref fa, .ref ra, .int rc, .int pr, .int fc])), (op, .inr (4, [.ref ob, .int os])), (ob, aB E (cap) (of)), (ja, aJ E (1) (jf2)), (mw, aB E (115000) (wf))] ++ zz E fo fd R60)) (As := []) (rest := []) (Spl.atZ [0, 1, 2, 3, 4, 5, 6, 7, 8, 9, 10, 11, 12, 13, 14, 15, 17] [16] rfl rfl rfl) 0 rfl rfl rfl rfl (Nat.le_of_ble_eq_true rfl) (by decide) (by omega) (by omega) (fun v w h => ?_)
    obtain ⟨x514, rfl, e514, rfl⟩ := h
    refine g_tail ?_
    change G E g ([(ip, .inr (3, [.ref ib, .int sz, .int pl])), (ib, aB E (1500) (f)), (lb, aB E (24) (lf)), (fa, aF E (60) (ga)), (ra, aI E (180) (rf)), (mi, aB E (1500) (f)), (ml, aB E (24) (mlf)), (mt, aI E (60) (tf)), (mz, aI E (60) (sf)), (my, aB E (114000) (yf)), (mr, aI E (180) (mrf)), (mn, aI E (180) (mnf)), (x, .inr (5, [.ref ip, .ref op, .ref lb, .ref fa, .ref ra, .int rc, .int pr, .int fc])), (op, .inr (4, [.ref ob, .int os])), (ob, aB E (cap) (of)), (ja, aJ E (1) (jf2)), (mw, aB E (115000) (wf)), (m, .inr (6, [.int t1, .ref mi, .int msz, .int mpl, .int te, .ref ml, .ref mt, .ref my, .ref mz, .int nf, .ref mr, .ref mn, .int mrc, .ref mw, .int wz, .int wr]))] ++ zz E fo fd R60) _ _ _ _ [.int x514]
    replace e514 := congrArg Int32.toInt e514
    refine g_iload C dL_law_517 1 rfl ?_
    refine g_icmp_eq C 524 dL_law_519 (by decide) (fun c519 => ?_) (fun c519 => ?_)
    · refine g_iload C dL_law_524 1 rfl ?_
      refine g_if_ne C 541 dL_law_526 (by decide) (fun c526 => ?_) (fun c526 => ?_)
      · refine g_goto C 544 dL_law_541 (by decide) ?_
        refine g_iinc C dL_law_544 6 rfl (by rw [hN]; decide) (by decide) (by omega) (fun x544 e544 => ?_)
        refine g_lvE (lv' := [(4, .int x544), (6, .int x508), (5, .int x496), (0, .ref bb), (1, .ref x), (2, .ref m), (3, .ref ja)]) rfl ?_
        refine g_goto C 23 dL_law_547 (by decide) ?_
        refine g_lv [3, 4, 5, 6, 0] (lv' := [(0, .ref bb), (1, .ref x), (2, .ref m), (3, .ref ja), (4, .int x544)]) rfl ?_
        refine g_permZ [12, 0, 1, 13, 14, 2, 3, 4, 17, 5, 6, 7, 8, 9, 10, 11, 16, 15] rfl (ws' := [(x, .inr (5, [.ref ip, .ref op, .ref lb, .ref fa, .ref ra, .int rc, .int pr, .int fc])), (ip, .inr (3, [.ref ib, .int sz, .int pl])), (ib, aB E (1500) (f)), (op, .inr (4, [.ref ob, .int os])), (ob, aB E (cap) (of)), (lb, aB E (24) (lf)), (fa, aF E (60) (ga)), (ra, aI E (180) (rf)), (m, .inr (6, [.int t1, .ref mi, .int msz, .int mpl, .int te, .ref ml, .ref mt, .ref my, .ref mz, .int nf, .ref mr, .ref mn, .int mrc, .ref mw, .int wz, .int wr])), (mi, aB E (1500) (f)), (ml, aB E (24) (mlf)), (mt, aI E (60) (tf)), (mz, aI E (60) (sf)), (my, aB E (114000) (yf)), (mr, aI E (180) (mrf)), (mn, aI E (180) (mnf)), (mw, aB E (115000) (wf)), (ja, aJ E (1) (jf2))]) rfl rfl ?_
        exact K _ _ _ _ _ _ _ _ _ _ _ _ _ _ _ _ _ _ _ _ _ _ _ _ _ _ _ _ _ _ _ _ _ _ _ _ _ _ (by omega) (by omega) hA.up hB.up hC hD ⟨by omega, by omega⟩
      · refine g_aload_n C dL_law_529 5 rfl ?_
        refine g_iconst C dL_law_530 (by decide) (fun x530 e530 => ?_)
        refine g_laload C 15 rfl dL_law_531 0 (by omega) (by omega) ?_
        refine g_iload C dL_law_532 0 rfl ?_
        refine g_i2l C dL_law_534 ?_
        refine g_lcmp C dL_law_535 (fun x535 e535 => ?_)
        refine g_if_eq C 541 dL_law_536 (by decide) (fun c536 => ?_) (fun c536 => ?_)
        · refine g_goto C 544 dL_law_541 (by decide) ?_
          refine g_iinc C dL_law_544 6 rfl (by rw [hN]; decide) (by decide) (by omega) (fun x544 e544 => ?_)
          refine g_lvE (lv' := [(4, .int x544), (6, .int x508), (5, .int x496), (0, .ref bb), (1, .ref x), (2, .ref m), (3, .ref ja)]) rfl ?_
          refine g_goto C 23 dL_law_547 (by decide) ?_
          refine g_lv [3, 4, 5, 6, 0] (lv' := [(0, .ref bb), (1, .ref x), (2, .ref m), (3, .ref ja), (4, .int x544)]) rfl ?_
          refine g_permZ [12, 0, 1, 13, 14, 2, 3, 4, 17, 5, 6, 7, 8, 9, 10, 11, 16, 15] rfl (ws' := [(x, .inr (5, [.ref ip, .ref op, .ref lb, .ref fa, .ref ra, .int rc, .int pr, .int fc])), (ip, .inr (3, [.ref ib, .int sz, .int pl])), (ib, aB E (1500) (f)), (op, .inr (4, [.ref ob, .int os])), (ob, aB E (cap) (of)), (lb, aB E (24) (lf)), (fa, aF E (60) (ga)), (ra, aI E (180) (rf)), (m, .inr (6, [.int t1, .ref mi, .int msz, .int mpl, .int te, .ref ml, .ref mt, .ref my, .ref mz, .int nf, .ref mr, .ref mn, .int mrc, .ref mw, .int wz, .int wr])), (mi, aB E (1500) (f)), (ml, aB E (24) (mlf)), (mt, aI E (60) (tf)), (mz, aI E (60) (sf)), (my, aB E (114000) (yf)), (mr, aI E (180) (mrf)), (mn, aI E (180) (mnf)), (mw, aB E (115000) (wf)), (ja, aJ E (1) (jf2))]) rfl rfl ?_
          exact K _ _ _ _ _ _ _ _ _ _ _ _ _ _ _ _ _ _ _ _ _ _ _ _ _ _ _ _ _ _ _ _ _ _ _ _ _ _ (by omega) (by omega) hA.up hB.up hC hD ⟨by omega, by omega⟩
        · first | (exfalso; omega) | exact absurd (e535 (by rw [j496, k508])) c536
    · exfalso; omega
  · refine g_aload_n C dL_law_488 1 rfl ?_
    refine g_aload_n C dL_law_489 0 rfl ?_
    refine g_iload C dL_law_490 4 rfl ?_
    refine g_iconst C dL_law_492 (by decide) (fun x492 e492 => ?_)
    refine g_iadd C dL_law_493 (by omega) (fun x493 e493 => ?_)
    refine g_sld C hX hbl hbA dL_law_494 (5 * k + 1) (by omega) (by omega) ?_
    refine g_aload_n C dL_law_495 3 rfl ?_
    refine g_callSW C r hT sw_L_77 dL_law_496 (c_L_octet g.l hl E x op ob cap ja of jf os (xs (5 * k + 1)) o (.ref ip) (.ref lb) (.ref fa) (.ref ra) (.int rc) (.int pr) (.int fc) hos hBo hoc) (wr := ([(ip, .inr (3, [.ref ib, .int sz, .int pl])), (ib, aB E (1500) (f)), (lb, aB E (24) (lf)), (fa, aF E (60) (ga)), (ra, aI E (180) (rf)), (m, .inr (6, [.int t0, .ref mi, .int msz, .int mpl, .int te, .ref ml, .ref mt, .ref my, .ref mz, .int nf, .ref mr, .ref mn, .int mrc, .ref mw, .int wz, .int wr])), (mi, aB E (1500) (f)), (ml, aB E (24) (mlf)), (mt, aI E (60) (tf)), (mz, aI E (60) (sf)), (my, aB E (114000) (yf)), (mr, aI E (180) (mrf)), (mn, aI E (180) (mnf)), (mw, aB E (115000) (wf))] ++ zz E fo fd R60)) (As := [.ref x, .int (xs (5 * k + 1)), .ref ja]) (rest := []) (Spl.atZ [1, 2, 5, 6, 7, 8, 9, 10, 11, 12, 13, 14, 15, 16] [0, 3, 4, 17] rfl rfl rfl) rfl (Nat.le_of_ble_eq_true rfl) (by decide) (by omega) (by omega) (fun v w h => ?_)
    obtain ⟨x496, jf2, rfl, e496, rfl⟩ := h
    replace e496 := (e496.resolve_left (fun q => hin ⟨q.1, q.2.1⟩)).2
    refine g_tail ?_
    change G E g ([(ip, .inr (3, [.ref ib, .int sz, .int pl])), (ib, aB E (1500) (f)), (lb, aB E (24) (lf)), (fa, aF E (60) (ga)), (ra, aI E (180) (rf)), (m, .inr (6, [.int t0, .ref mi, .int msz, .int mpl, .int te, .ref ml, .ref mt, .ref my, .ref mz, .int nf, .ref mr, .ref mn, .int mrc, .ref mw, .int wz, .int wr])), (mi, aB E (1500) (f)), (ml, aB E (24) (mlf)), (mt, aI E (60) (tf)), (mz, aI E (60) (sf)), (my, aB E (114000) (yf)), (mr, aI E (180) (mrf)), (mn, aI E (180) (mnf)), (mw, aB E (115000) (wf)), (x, .inr (5, [.ref ip, .ref op, .ref lb, .ref fa, .ref ra, .int rc, .int pr, .int fc])), (op, .inr (4, [.ref ob, .int os])), (ob, aB E (cap) (of)), (ja, aJ E (1) (jf2))] ++ zz E fo fd R60) _ _ _ _ [.int x496]
    refine g_istore C dL_law_499 (by rw [hN]; decide) (lv' := [(5, .int x496), (0, .ref bb), (1, .ref x), (2, .ref m), (3, .ref ja), (4, .int i)]) rfl ?_
    refine g_aload_n C dL_law_501 3 rfl ?_
    refine g_aload_n C dL_law_502 1 rfl ?_
    refine g_iload C dL_law_503 5 rfl ?_
    refine g_iconst C dL_law_505 (by decide) (fun x505 e505 => ?_)
    refine g_iadd C dL_law_506 (by omega) (fun x506 e506 => ?_)
    refine g_sld C hX hbl hbA dL_law_507 (5 * k + 1) (by omega) (by omega) ?_
    refine g_callV C r mv_L_80 dL_law_508 (c_X4_octet g.l E m mw wf t0 wz (xs (5 * k + 1)) o (.ref mi) (.int msz) (.int mpl) (.int te) (.ref ml) (.ref mt) (.ref my) (.ref mz) (.int nf) (.ref mr) (.ref mn) (.int mrc) (.int wr) hwz ho5 hBw) (wr := ([(ip, .inr (3, [.ref ib, .int sz, .int pl])), (ib, aB E (1500) (f)), (lb, aB E (24) (lf)), (fa, aF E (60) (ga)), (ra, aI E (180) (rf)), (mi, aB E (1500) (f)), (ml, aB E (24) (mlf)), (mt, aI E (60) (tf)), (mz, aI E (60) (sf)), (my, aB E (114000) (yf)), (mr, aI E (180) (mrf)), (mn, aI E (180) (mnf)), (x, .inr (5, [.ref ip, .ref op, .ref lb, .ref fa, .ref ra, .int rc, .int pr, .int fc])), (op, .inr (4, [.ref ob, .int os])), (ob, aB E (cap) (of)), (ja, aJ E (1) (jf2))] ++ zz E fo fd R60)) (As := [.int (xs (5 * k + 1))]) (rest := []) (Spl.atZ [0, 1, 2, 3, 4, 6, 7, 8, 9, 10, 11, 12, 14, 15, 16, 17] [5, 13] rfl rfl rfl) 0 rfl rfl rfl rfl (Nat.le_of_ble_eq_true rfl) (by decide) (by omega) (by omega) (fun v w h => ?_)
    obtain ⟨x508, t1, rfl, e508, rfl⟩ := h
    obtain ⟨_, et1, _⟩ := e508.resolve_left (fun q => hin ⟨q.1, q.2.1⟩)
    clear e508
    refine g_tail ?_
    change G E g ([(ip, .inr (3, [.ref ib, .int sz, .int pl])), (ib, aB E (1500) (f)), (lb, aB E (24) (lf)), (fa, aF E (60) (ga)), (ra, aI E (180) (rf)), (mi, aB E (1500) (f)), (ml, aB E (24) (mlf)), (mt, aI E (60) (tf)), (mz, aI E (60) (sf)), (my, aB E (114000) (yf)), (mr, aI E (180) (mrf)), (mn, aI E (180) (mnf)), (x, .inr (5, [.ref ip, .ref op, .ref lb, .ref fa, .ref ra, .int rc, .int pr, .int fc])), (op, .inr (4, [.ref ob, .int os])), (ob, aB E (cap) (of)), (ja, aJ E (1) (jf2)), (m, .inr (6, [.int t1, .ref mi, .int msz, .int mpl, .int te, .ref ml, .ref mt, .ref my, .ref mz, .int nf, .ref mr, .ref mn, .int mrc, .ref mw, .int wz, .int wr])), (mw, aB E (115000) (wf))] ++ zz E fo fd R60) _ _ _ _ [.int x508]
    refine g_istore C dL_law_511 (by rw [hN]; decide) (lv' := [(6, .int x508), (5, .int x496), (0, .ref bb), (1, .ref x), (2, .ref m), (3, .ref ja), (4, .int i)]) rfl ?_
    refine g_aload_n C dL_law_513 4 rfl ?_
    refine g_callV C r mv_L_52 dL_law_514 (c_X4_thrown g.l E m t1 (.ref mi) (.int msz) (.int mpl) (.int te) (.ref ml) (.ref mt) (.ref my) (.ref mz) (.int nf) (.ref mr) (.ref mn) (.int mrc) (.ref mw) (.int wz) (.int wr) ) (wr := ([(ip, .inr (3, [.ref ib, .int sz, .int pl])), (ib, aB E (1500) (f)), (lb, aB E (24) (lf)), (fa, aF E (60) (ga)), (ra, aI E (180) (rf)), (mi, aB E (1500) (f)), (ml, aB E (24) (mlf)), (mt, aI E (60) (tf)), (mz, aI E (60) (sf)), (my, aB E (114000) (yf)), (mr, aI E (180) (mrf)), (mn, aI E (180) (mnf)), (x, .inr (5, [.ref ip, .ref op, .ref lb, .ref fa, .ref ra, .int rc, .int pr, .int fc])), (op, .inr (4, [.ref ob, .int os])), (ob, aB E (cap) (of)), (ja, aJ E (1) (jf2)), (mw, aB E (115000) (wf))] ++ zz E fo fd R60)) (As := []) (rest := []) (Spl.atZ [0, 1, 2, 3, 4, 5, 6, 7, 8, 9, 10, 11, 12, 13, 14, 15, 17] [16] rfl rfl rfl) 0 rfl rfl rfl rfl (Nat.le_of_ble_eq_true rfl) (by decide) (by omega) (by omega) (fun v w h => ?_)
    obtain ⟨x514, rfl, e514, rfl⟩ := h
    refine g_tail ?_
    change G E g ([(ip, .inr (3, [.ref ib, .int sz, .int pl])), (ib, aB E (1500) (f)), (lb, aB E (24) (lf)), (fa, aF E (60) (ga)), (ra, aI E (180) (rf)), (mi, aB E (1500) (f)), (ml, aB E (24) (mlf)), (mt, aI E (60) (tf)), (mz, aI E (60) (sf)), (my, aB E (114000) (yf)), (mr, aI E (180) (mrf)), (mn, aI E (180) (mnf)), (x, .inr (5, [.ref ip, .ref op, .ref lb, .ref fa, .ref ra, .int rc, .int pr, .int fc])), (op, .inr (4, [.ref ob, .int os])), (ob, aB E (cap) (of)), (ja, aJ E (1) (jf2)), (mw, aB E (115000) (wf)), (m, .inr (6, [.int t1, .ref mi, .int msz, .int mpl, .int te, .ref ml, .ref mt, .ref my, .ref mz, .int nf, .ref mr, .ref mn, .int mrc, .ref mw, .int wz, .int wr]))] ++ zz E fo fd R60) _ _ _ _ [.int x514]
    replace e514 := congrArg Int32.toInt e514
    refine g_iload C dL_law_517 1 rfl ?_
    refine g_icmp_eq C 524 dL_law_519 (by decide) (fun c519 => ?_) (fun c519 => ?_)
    · refine g_iload C dL_law_524 1 rfl ?_
      refine g_if_ne C 541 dL_law_526 (by decide) (fun c526 => ?_) (fun c526 => ?_)
      · refine g_goto C 544 dL_law_541 (by decide) ?_
        refine g_iinc C dL_law_544 6 rfl (by rw [hN]; decide) (by decide) (by omega) (fun x544 e544 => ?_)
        refine g_lvE (lv' := [(4, .int x544), (6, .int x508), (5, .int x496), (0, .ref bb), (1, .ref x), (2, .ref m), (3, .ref ja)]) rfl ?_
        refine g_goto C 23 dL_law_547 (by decide) ?_
        refine g_lv [3, 4, 5, 6, 0] (lv' := [(0, .ref bb), (1, .ref x), (2, .ref m), (3, .ref ja), (4, .int x544)]) rfl ?_
        refine g_permZ [12, 0, 1, 13, 14, 2, 3, 4, 17, 5, 6, 7, 8, 9, 10, 11, 16, 15] rfl (ws' := [(x, .inr (5, [.ref ip, .ref op, .ref lb, .ref fa, .ref ra, .int rc, .int pr, .int fc])), (ip, .inr (3, [.ref ib, .int sz, .int pl])), (ib, aB E (1500) (f)), (op, .inr (4, [.ref ob, .int os])), (ob, aB E (cap) (of)), (lb, aB E (24) (lf)), (fa, aF E (60) (ga)), (ra, aI E (180) (rf)), (m, .inr (6, [.int t1, .ref mi, .int msz, .int mpl, .int te, .ref ml, .ref mt, .ref my, .ref mz, .int nf, .ref mr, .ref mn, .int mrc, .ref mw, .int wz, .int wr])), (mi, aB E (1500) (f)), (ml, aB E (24) (mlf)), (mt, aI E (60) (tf)), (mz, aI E (60) (sf)), (my, aB E (114000) (yf)), (mr, aI E (180) (mrf)), (mn, aI E (180) (mnf)), (mw, aB E (115000) (wf)), (ja, aJ E (1) (jf2))]) rfl rfl ?_
        exact K _ _ _ _ _ _ _ _ _ _ _ _ _ _ _ _ _ _ _ _ _ _ _ _ _ _ _ _ _ _ _ _ _ _ _ _ _ _ (by omega) (by omega) hA.up hB.up hC hD ⟨by omega, by omega⟩
      · refine g_aload_n C dL_law_529 5 rfl ?_
        refine g_iconst C dL_law_530 (by decide) (fun x530 e530 => ?_)
        refine g_laload C 15 rfl dL_law_531 0 (by omega) (by omega) ?_
        refine g_iload C dL_law_532 0 rfl ?_
        refine g_i2l C dL_law_534 ?_
        refine g_lcmp C dL_law_535 (fun x535 e535 => ?_)
        refine g_if_eq C 541 dL_law_536 (by decide) (fun c536 => ?_) (fun c536 => ?_)
        · refine g_goto C 544 dL_law_541 (by decide) ?_
          refine g_iinc C dL_law_544 6 rfl (by rw [hN]; decide) (by decide) (by omega) (fun x544 e544 => ?_)
          refine g_lvE (lv' := [(4, .int x544), (6, .int x508), (5, .int x496), (0, .ref bb), (1, .ref x), (2, .ref m), (3, .ref ja)]) rfl ?_
          refine g_goto C 23 dL_law_547 (by decide) ?_
          refine g_lv [3, 4, 5, 6, 0] (lv' := [(0, .ref bb), (1, .ref x), (2, .ref m), (3, .ref ja), (4, .int x544)]) rfl ?_
          refine g_permZ [12, 0, 1, 13, 14, 2, 3, 4, 17, 5, 6, 7, 8, 9, 10, 11, 16, 15] rfl (ws' := [(x, .inr (5, [.ref ip, .ref op, .ref lb, .ref fa, .ref ra, .int rc, .int pr, .int fc])), (ip, .inr (3, [.ref ib, .int sz, .int pl])), (ib, aB E (1500) (f)), (op, .inr (4, [.ref ob, .int os])), (ob, aB E (cap) (of)), (lb, aB E (24) (lf)), (fa, aF E (60) (ga)), (ra, aI E (180) (rf)), (m, .inr (6, [.int t1, .ref mi, .int msz, .int mpl, .int te, .ref ml, .ref mt, .ref my, .ref mz, .int nf, .ref mr, .ref mn, .int mrc, .ref mw, .int wz, .int wr])), (mi, aB E (1500) (f)), (ml, aB E (24) (mlf)), (mt, aI E (60) (tf)), (mz, aI E (60) (sf)), (my, aB E (114000) (yf)), (mr, aI E (180) (mrf)), (mn, aI E (180) (mnf)), (mw, aB E (115000) (wf)), (ja, aJ E (1) (jf2))]) rfl rfl ?_
          exact K _ _ _ _ _ _ _ _ _ _ _ _ _ _ _ _ _ _ _ _ _ _ _ _ _ _ _ _ _ _ _ _ _ _ _ _ _ _ (by omega) (by omega) hA.up hB.up hC hD ⟨by omega, by omega⟩
        · first | (exfalso; omega) | exact absurd (e535 (by rw [j496, k508])) c536
    · exfalso; omega
set_option maxHeartbeats 1000000 in
set_option maxRecDepth 10000 in
theorem law_length {E : GE} {g : Cf} {ret : Option FieldType} {xs : Nat → Int32} {bb L : Nat} {x ip ib op lb fa ra m mi ml mt mz my mr mn mw ja : Nat} {ga : Nat → Option Nat} {fo : Nat → Nat} {f of lf rf mlf tf sf yf mrf mnf wf : Nat → Int32} {jf : Nat → Int64} {fd : Nat → FV} {ob cap : Nat} {sz pl os rc pr fc t0 msz mpl te nf mrc wz wr i : Int32} {cN sN S P R : Nat} {fl : FL} {o : List Nat} {b0 : Nat → Nat} (C : Cx E g cL_law RL ret) (r : RF g 19 603072 7198826) (hT : TH g.A g.s g.s.heap) (hl : g.l.stackTraces = false) (hN : g.n = 7) (hX : va_X bb L xs g.s g.s.heap) (hbl : bb < g.s.heap.size) (hbA : ¬ g.A bb) (hga : ∀ j, j < 60 → ga j = some (fo j)) (hL : L ≤ 2560) (k : Nat) (hk : 5 * k + 5 ≤ L) (hi : i.toInt = ((5 * k : Nat) : Int)) (hA : IA k S P f sz pl msz mpl) (hB : IB k fl pr fc fd te nf tf sf yf lf mlf) (hC : IC R b0 rc mrc rf mrf) (hD : ID o cap os wz of wf) (hE : IN k P cap cN sN) (K : LK E g bb L x ip ib op lb fa ra m mi ml mt mz my mr mn mw ja ga fo (k + 1)) : G E g ([(x, .inr (5, [.ref ip, .ref op, .ref lb, .ref fa, .ref ra, .int rc, .int pr, .int fc])), (ip, .inr (3, [.ref ib, .int sz, .int pl])), (ib, aB E (1500) (f)), (op, .inr (4, [.ref ob, .int os])), (ob, aB E (cap) (of)), (lb, aB E (24) (lf)), (fa, aF E (60) (ga)), (ra, aI E (180) (rf)), (m, .inr (6, [.int t0, .ref mi, .int msz, .int mpl, .int te, .ref ml, .ref mt, .ref my, .ref mz, .int nf, .ref mr, .ref mn, .int mrc, .ref mw, .int wz, .int wr])), (mi, aB E (1500) (f)), (ml, aB E (24) (mlf)), (mt, aI E (60) (tf)), (mz, aI E (60) (sf)), (my, aB E (114000) (yf)), (mr, aI E (180) (mrf)), (mn, aI E (180) (mnf)), (mw, aB E (115000) (wf)), (ja, aJ E (1) (jf))] ++ zz E fo fd R60) cN sN 341 [(0, .ref bb), (1, .ref x), (2, .ref m), (3, .ref ja), (4, .int i)] [] := by
  have hA0 := hA
  have hB0 := hB
  have hC0 := hC
  have hD0 := hD
  obtain ⟨hS, hmS, hP, hmP, hPS, hSk, hSm, hBF⟩ := hA0
  obtain ⟨hXP, hMP, hpt, hFW, hLN, hlf⟩ := hB0
  obtain ⟨hrc, hmrc, hR, hRW, hmRW⟩ := hC0
  obtain ⟨hos, hwz, hBo, hBw, hoc, ho5, hc2, hc3⟩ := hD0
  obtain ⟨hcN, hsN⟩ := hE
  have hfn : pr.toInt ≠ 0 → fc.toInt = nf.toInt := fun q => by rw [hXP.2.1, (hMP.in (by rw [← hpt]; exact q)).1]
  refine g_aload_n C dL_law_341 1 rfl ?_
  refine g_callV C r mv_L_55 dL_law_342 (c_X3_length g.l E x pr fc (.ref ip) (.ref op) (.ref lb) (.ref fa) (.ref ra) (.int rc) ) (wr := ([(ip, .inr (3, [.ref ib, .int sz, .int pl])), (ib, aB E (1500) (f)), (op, .inr (4, [.ref ob, .int os])), (ob, aB E (cap) (of)), (lb, aB E (24) (lf)), (fa, aF E (60) (ga)), (ra, aI E (180) (rf)), (m, .inr (6, [.int t0, .ref mi, .int msz, .int mpl, .int te, .ref ml, .ref mt, .ref my, .ref mz, .int nf, .ref mr, .ref mn, .int mrc, .ref mw, .int wz, .int wr])), (mi, aB E (1500) (f)), (ml, aB E (24) (mlf)), (mt, aI E (60) (tf)), (mz, aI E (60) (sf)), (my, aB E (114000) (yf)), (mr, aI E (180) (mrf)), (mn, aI E (180) (mnf)), (mw, aB E (115000) (wf)), (ja, aJ E (1) (jf))] ++ zz E fo fd R60)) (As := []) (rest := []) (Spl.atZ [1, 2, 3, 4, 5, 6, 7, 8, 9, 10, 11, 12, 13, 14, 15, 16, 17] [0] rfl rfl rfl) 0 rfl rfl rfl rfl (Nat.le_of_ble_eq_true rfl) (by decide) (by omega) (by omega) (fun v w h => ?_)
  obtain ⟨x342, rfl, e342, rfl⟩ := h
  refine g_tail ?_
  change G E g ([(ip, .inr (3, [.ref ib, .int sz, .int pl])), (ib, aB E (1500) (f)), (op, .inr (4, [.ref ob, .int os])), (ob, aB E (cap) (of)), (lb, aB E (24) (lf)), (fa, aF E (60) (ga)), (ra, aI E (180) (rf)), (m, .inr (6, [.int t0, .ref mi, .int msz, .int mpl, .int te, .ref ml, .ref mt, .ref my, .ref mz, .int nf, .ref mr, .ref mn, .int mrc, .ref mw, .int wz, .int wr])), (mi, aB E (1500) (f)), (ml, aB E (24) (mlf)), (mt, aI E (60) (tf)), (mz, aI E (60) (sf)), (my, aB E (114000) (yf)), (mr, aI E (180) (mrf)), (mn, aI E (180) (mnf)), (mw, aB E (115000) (wf)), (ja, aJ E (1) (jf)), (x, .inr (5, [.ref ip, .ref op, .ref lb, .ref fa, .ref ra, .int rc, .int pr, .int fc]))] ++ zz E fo fd R60) _ _ _ _ [.int x342]
  refine g_aload_n C dL_law_345 2 rfl ?_
  refine g_callV C r mv_L_58 dL_law_346 (c_X4_length g.l E m t0 te nf (.ref mi) (.int msz) (.int mpl) (.ref ml) (.ref mt) (.ref my) (.ref mz) (.ref mr) (.ref mn) (.int mrc) (.ref mw) (.int wz) (.int wr) ) (wr := ([(ip, .inr (3, [.ref ib, .int sz, .int pl])), (ib, aB E (1500) (f)), (op, .inr (4, [.ref ob, .int os])), (ob, aB E (cap) (of)), (lb, aB E (24) (lf)), (fa, aF E (60) (ga)), (ra, aI E (180) (rf)), (mi, aB E (1500) (f)), (ml, aB E (24) (mlf)), (mt, aI E (60) (tf)), (mz, aI E (60) (sf)), (my, aB E (114000) (yf)), (mr, aI E (180) (mrf)), (mn, aI E (180) (mnf)), (mw, aB E (115000) (wf)), (ja, aJ E (1) (jf)), (x, .inr (5, [.ref ip, .ref op, .ref lb, .ref fa, .ref ra, .int rc, .int pr, .int fc]))] ++ zz E fo fd R60)) (As := []) (rest := [.int x342]) (Spl.atZ [0, 1, 2, 3, 4, 5, 6, 8, 9, 10, 11, 12, 13, 14, 15, 16, 17] [7] rfl rfl rfl) 0 rfl rfl rfl rfl (Nat.le_of_ble_eq_true rfl) (by decide) (by omega) (by omega) (fun v w h => ?_)
  obtain ⟨x346, t1, rfl, et1, e346, rfl⟩ := h
  refine g_tail ?_
  change G E g ([(ip, .inr (3, [.ref ib, .int sz, .int pl])), (ib, aB E (1500) (f)), (op, .inr (4, [.ref ob, .int os])), (ob, aB E (cap) (of)), (lb, aB E (24) (lf)), (fa, aF E (60) (ga)), (ra, aI E (180) (rf)), (mi, aB E (1500) (f)), (ml, aB E (24) (mlf)), (mt, aI E (60) (tf)), (mz, aI E (60) (sf)), (my, aB E (114000) (yf)), (mr, aI E (180) (mrf)), (mn, aI E (180) (mnf)), (mw, aB E (115000) (wf)), (ja, aJ E (1) (jf)), (x, .inr (5, [.ref ip, .ref op, .ref lb, .ref fa, .ref ra, .int rc, .int pr, .int fc])), (m, .inr (6, [.int t1, .ref mi, .int msz, .int mpl, .int te, .ref ml, .ref mt, .ref my, .ref mz, .int nf, .ref mr, .ref mn, .int mrc, .ref mw, .int wz, .int wr]))] ++ zz E fo fd R60) _ _ _ _ [.int x346, .int x342]
  refine g_icmp_eq C 544 dL_law_349 (by decide) (fun c349 => ?_) (fun c349 => ?_)
  · refine g_iinc C dL_law_544 4 rfl (by rw [hN]; decide) (by decide) (by omega) (fun x544 e544 => ?_)
    refine g_lvE (lv' := [(4, .int x544), (0, .ref bb), (1, .ref x), (2, .ref m), (3, .ref ja)]) rfl ?_
    refine g_goto C 23 dL_law_547 (by decide) ?_
    refine g_lv [1, 2, 3, 4, 0] (lv' := [(0, .ref bb), (1, .ref x), (2, .ref m), (3, .ref ja), (4, .int x544)]) rfl ?_
    refine g_permZ [16, 0, 1, 2, 3, 4, 5, 6, 17, 7, 8, 9, 10, 11, 12, 13, 14, 15] rfl (ws' := [(x, .inr (5, [.ref ip, .ref op, .ref lb, .ref fa, .ref ra, .int rc, .int pr, .int fc])), (ip, .inr (3, [.ref ib, .int sz, .int pl])), (ib, aB E (1500) (f)), (op, .inr (4, [.ref ob, .int os])), (ob, aB E (cap) (of)), (lb, aB E (24) (lf)), (fa, aF E (60) (ga)), (ra, aI E (180) (rf)), (m, .inr (6, [.int t1, .ref mi, .int msz, .int mpl, .int te, .ref ml, .ref mt, .ref my, .ref mz, .int nf, .ref mr, .ref mn, .int mrc, .ref mw, .int wz, .int wr])), (mi, aB E (1500) (f)), (ml, aB E (24) (mlf)), (mt, aI E (60) (tf)), (mz, aI E (60) (sf)), (my, aB E (114000) (yf)), (mr, aI E (180) (mrf)), (mn, aI E (180) (mnf)), (mw, aB E (115000) (wf)), (ja, aJ E (1) (jf))]) rfl rfl ?_
    exact K _ _ _ _ _ _ _ _ _ _ _ _ _ _ _ _ _ _ _ _ _ _ _ _ _ _ _ _ _ _ _ _ _ _ _ _ _ _ (by omega) (by omega) hA.up hB.up hC hD ⟨by omega, by omega⟩
  · exfalso; omega
set_option maxHeartbeats 1000000 in
set_option maxRecDepth 10000 in
theorem law_leader {E : GE} {g : Cf} {ret : Option FieldType} {xs : Nat → Int32} {bb L : Nat} {x ip ib op lb fa ra m mi ml mt mz my mr mn mw ja : Nat} {ga : Nat → Option Nat} {fo : Nat → Nat} {f of lf rf mlf tf sf yf mrf mnf wf : Nat → Int32} {jf : Nat → Int64} {fd : Nat → FV} {ob cap : Nat} {sz pl os rc pr fc t0 msz mpl te nf mrc wz wr i : Int32} {cN sN S P R : Nat} {fl : FL} {o : List Nat} {b0 : Nat → Nat} (C : Cx E g cL_law RL ret) (r : RF g 19 603072 7198826) (hT : TH g.A g.s g.s.heap) (hl : g.l.stackTraces = false) (hN : g.n = 7) (hX : va_X bb L xs g.s g.s.heap) (hbl : bb < g.s.heap.size) (hbA : ¬ g.A bb) (hga : ∀ j, j < 60 → ga j = some (fo j)) (hL : L ≤ 2560) (k : Nat) (hk : 5 * k + 5 ≤ L) (hi : i.toInt = ((5 * k : Nat) : Int)) (hA : IA k S P f sz pl msz mpl) (hB : IB k fl pr fc fd te nf tf sf yf lf mlf) (hC : IC R b0 rc mrc rf mrf) (hD : ID o cap os wz of wf) (hE : IN k P cap cN sN) (K : LK E g bb L x ip ib op lb fa ra m mi ml mt mz my mr mn mw ja ga fo (k + 1)) : G E g ([(x, .inr (5, [.ref ip, .ref op, .ref lb, .ref fa, .ref ra, .int rc, .int pr, .int fc])), (ip, .inr (3, [.ref ib, .int sz, .int pl])), (ib, aB E (1500) (f)), (op, .inr (4, [.ref ob, .int os])), (ob, aB E (cap) (of)), (lb, aB E (24) (lf)), (fa, aF E (60) (ga)), (ra, aI E (180) (rf)), (m, .inr (6, [.int t0, .ref mi, .int msz, .int mpl, .int te, .ref ml, .ref mt, .ref my, .ref mz, .int nf, .ref mr, .ref mn, .int mrc, .ref mw, .int wz, .int wr])), (mi, aB E (1500) (f)), (ml, aB E (24) (mlf)), (mt, aI E (60) (tf)), (mz, aI E (60) (sf)), (my, aB E (114000) (yf)), (mr, aI E (180) (mrf)), (mn, aI E (180) (mnf)), (mw, aB E (115000) (wf)), (ja, aJ E (1) (jf))] ++ zz E fo fd R60) cN sN 354 [(0, .ref bb), (1, .ref x), (2, .ref m), (3, .ref ja), (4, .int i)] [] := by
  have hA0 := hA
  have hB0 := hB
  have hC0 := hC
  have hD0 := hD
  obtain ⟨hS, hmS, hP, hmP, hPS, hSk, hSm, hBF⟩ := hA0
  obtain ⟨hXP, hMP, hpt, hFW, hLN, hlf⟩ := hB0
  obtain ⟨hrc, hmrc, hR, hRW, hmRW⟩ := hC0
  obtain ⟨hos, hwz, hBo, hBw, hoc, ho5, hc2, hc3⟩ := hD0
  obtain ⟨hcN, hsN⟩ := hE
  refine g_aload_n C dL_law_354 1 rfl ?_
  refine g_aload_n C dL_law_355 0 rfl ?_
  refine g_iload C dL_law_356 4 rfl ?_
  refine g_iconst C dL_law_358 (by decide) (fun x358 e358 => ?_)
  refine g_iadd C dL_law_359 (by omega) (fun x359 e359 => ?_)
  refine g_sld C hX hbl hbA dL_law_360 (5 * k + 1) (by omega) (by omega) ?_
  refine g_aload_n C dL_law_361 0 rfl ?_
  refine g_iload C dL_law_362 4 rfl ?_
  refine g_iconst C dL_law_364 (by decide) (fun x364 e364 => ?_)
  refine g_iadd C dL_law_365 (by omega) (fun x365 e365 => ?_)
  refine g_sld C hX hbl hbA dL_law_366 (5 * k + 2) (by omega) (by omega) ?_
  refine g_callV C r mv_L_59 dL_law_367 (c_X3_leader g.l E x lb lf pr fc (xs (5 * k + 1)) (xs (5 * k + 2)) (.ref ip) (.ref op) (.ref fa) (.ref ra) (.int rc) hXP.pr) (wr := ([(ip, .inr (3, [.ref ib, .int sz, .int pl])), (ib, aB E (1500) (f)), (op, .inr (4, [.ref ob, .int os])), (ob, aB E (cap) (of)), (fa, aF E (60) (ga)), (ra, aI E (180) (rf)), (m, .inr (6, [.int t0, .ref mi, .int msz, .int mpl, .int te, .ref ml, .ref mt, .ref my, .ref mz, .int nf, .ref mr, .ref mn, .int mrc, .ref mw, .int wz, .int wr])), (mi, aB E (1500) (f)), (ml, aB E (24) (mlf)), (mt, aI E (60) (tf)), (mz, aI E (60) (sf)), (my, aB E (114000) (yf)), (mr, aI E (180) (mrf)), (mn, aI E (180) (mnf)), (mw, aB E (115000) (wf)), (ja, aJ E (1) (jf))] ++ zz E fo fd R60)) (As := [.int (xs (5 * k + 1)), .int (xs (5 * k + 2))]) (rest := []) (Spl.atZ [1, 2, 3, 4, 6, 7, 8, 9, 10, 11, 12, 13, 14, 15, 16, 17] [0, 5] rfl rfl rfl) 0 rfl rfl rfl rfl (Nat.le_of_ble_eq_true rfl) (by decide) (by omega) (by omega) (fun v w h => ?_)
  obtain ⟨x367, pr1, fc1, lf1, rfl, d367, rfl⟩ := h
  refine g_tail ?_
  change G E g ([(ip, .inr (3, [.ref ib, .int sz, .int pl])), (ib, aB E (1500) (f)), (op, .inr (4, [.ref ob, .int os])), (ob, aB E (cap) (of)), (fa, aF E (60) (ga)), (ra, aI E (180) (rf)), (m, .inr (6, [.int t0, .ref mi, .int msz, .int mpl, .int te, .ref ml, .ref mt, .ref my, .ref mz, .int nf, .ref mr, .ref mn, .int mrc, .ref mw, .int wz, .int wr])), (mi, aB E (1500) (f)), (ml, aB E (24) (mlf)), (mt, aI E (60) (tf)), (mz, aI E (60) (sf)), (my, aB E (114000) (yf)), (mr, aI E (180) (mrf)), (mn, aI E (180) (mnf)), (mw, aB E (115000) (wf)), (ja, aJ E (1) (jf)), (x, .inr (5, [.ref ip, .ref op, .ref lb, .ref fa, .ref ra, .int rc, .int pr1, .int fc1])), (lb, aB E (24) (lf1))] ++ zz E fo fd R60) _ _ _ _ [.int x367]
  refine g_aload_n C dL_law_370 2 rfl ?_
  refine g_aload_n C dL_law_371 0 rfl ?_
  refine g_iload C dL_law_372 4 rfl ?_
  refine g_iconst C dL_law_374 (by decide) (fun x374 e374 => ?_)
  refine g_iadd C dL_law_375 (by omega) (fun x375 e375 => ?_)
  refine g_sld C hX hbl hbA dL_law_376 (5 * k + 1) (by omega) (by omega) ?_
  refine g_aload_n C dL_law_377 0 rfl ?_
  refine g_iload C dL_law_378 4 rfl ?_
  refine g_iconst C dL_law_380 (by decide) (fun x380 e380 => ?_)
  refine g_iadd C dL_law_381 (by omega) (fun x381 e381 => ?_)
  refine g_sld C hX hbl hbA dL_law_382 (5 * k + 2) (by omega) (by omega) ?_
  refine g_callV C r mv_L_63 dL_law_383 (c_X4_leader g.l E m ml mlf t0 te nf (xs (5 * k + 1)) (xs (5 * k + 2)) (.ref mi) (.int msz) (.int mpl) (.ref mt) (.ref my) (.ref mz) (.ref mr) (.ref mn) (.int mrc) (.ref mw) (.int wz) (.int wr) hMP.te) (wr := ([(ip, .inr (3, [.ref ib, .int sz, .int pl])), (ib, aB E (1500) (f)), (op, .inr (4, [.ref ob, .int os])), (ob, aB E (cap) (of)), (fa, aF E (60) (ga)), (ra, aI E (180) (rf)), (mi, aB E (1500) (f)), (mt, aI E (60) (tf)), (mz, aI E (60) (sf)), (my, aB E (114000) (yf)), (mr, aI E (180) (mrf)), (mn, aI E (180) (mnf)), (mw, aB E (115000) (wf)), (ja, aJ E (1) (jf)), (x, .inr (5, [.ref ip, .ref op, .ref lb, .ref fa, .ref ra, .int rc, .int pr1, .int fc1])), (lb, aB E (24) (lf1))] ++ zz E fo fd R60)) (As := [.int (xs (5 * k + 1)), .int (xs (5 * k + 2))]) (rest := [.int x367]) (Spl.atZ [0, 1, 2, 3, 4, 5, 7, 9, 10, 11, 12, 13, 14, 15, 16, 17] [6, 8] rfl rfl rfl) 0 rfl rfl rfl rfl (Nat.le_of_ble_eq_true rfl) (by decide) (by omega) (by omega) (fun v w h => ?_)
  obtain ⟨x383, t1, te1, nf1, lf2, rfl, et1, d383, rfl⟩ := h
  refine g_tail ?_
  change G E g ([(ip, .inr (3, [.ref ib, .int sz, .int pl])), (ib, aB E (1500) (f)), (op, .inr (4, [.ref ob, .int os])), (ob, aB E (cap) (of)), (fa, aF E (60) (ga)), (ra, aI E (180) (rf)), (mi, aB E (1500) (f)), (mt, aI E (60) (tf)), (mz, aI E (60) (sf)), (my, aB E (114000) (yf)), (mr, aI E (180) (mrf)), (mn, aI E (180) (mnf)), (mw, aB E (115000) (wf)), (ja, aJ E (1) (jf)), (x, .inr (5, [.ref ip, .ref op, .ref lb, .ref fa, .ref ra, .int rc, .int pr1, .int fc1])), (lb, aB E (24) (lf1)), (m, .inr (6, [.int t1, .ref mi, .int msz, .int mpl, .int te1, .ref ml, .ref mt, .ref my, .ref mz, .int nf1, .ref mr, .ref mn, .int mrc, .ref mw, .int wz, .int wr])), (ml, aB E (24) (lf2))] ++ zz E fo fd R60) _ _ _ _ [.int x383, .int x367]
  obtain ⟨hq, hB2⟩ := law_ld hB d367 d383
  clear d367 d383
  refine g_icmp_eq C 544 dL_law_386 (by decide) (fun c386 => ?_) (fun c386 => ?_)
  · refine g_iinc C dL_law_544 4 rfl (by rw [hN]; decide) (by decide) (by omega) (fun x544 e544 => ?_)
    refine g_lvE (lv' := [(4, .int x544), (0, .ref bb), (1, .ref x), (2, .ref m), (3, .ref ja)]) rfl ?_
    refine g_goto C 23 dL_law_547 (by decide) ?_
    refine g_lv [1, 2, 3, 4, 0] (lv' := [(0, .ref bb), (1, .ref x), (2, .ref m), (3, .ref ja), (4, .int x544)]) rfl ?_
    refine g_permZ [14, 0, 1, 2, 3, 15, 4, 5, 16, 6, 17, 7, 8, 9, 10, 11, 12, 13] rfl (ws' := [(x, .inr (5, [.ref ip, .ref op, .ref lb, .ref fa, .ref ra, .int rc, .int pr1, .int fc1])), (ip, .inr (3, [.ref ib, .int sz, .int pl])), (ib, aB E (1500) (f)), (op, .inr (4, [.ref ob, .int os])), (ob, aB E (cap) (of)), (lb, aB E (24) (lf1)), (fa, aF E (60) (ga)), (ra, aI E (180) (rf)), (m, .inr (6, [.int t1, .ref mi, .int msz, .int mpl, .int te1, .ref ml, .ref mt, .ref my, .ref mz, .int nf1, .ref mr, .ref mn, .int mrc, .ref mw, .int wz, .int wr])), (mi, aB E (1500) (f)), (ml, aB E (24) (lf2)), (mt, aI E (60) (tf)), (mz, aI E (60) (sf)), (my, aB E (114000) (yf)), (mr, aI E (180) (mrf)), (mn, aI E (180) (mnf)), (mw, aB E (115000) (wf)), (ja, aJ E (1) (jf))]) rfl rfl ?_
    exact K _ _ _ _ _ _ _ _ _ _ _ _ _ _ _ _ _ _ _ _ _ _ _ _ _ _ _ _ _ _ _ _ _ _ _ _ _ _ (by omega) (by omega) hA.up hB2 hC hD ⟨by omega, by omega⟩
  · exfalso; omega
set_option maxHeartbeats 1000000 in
set_option maxRecDepth 10000 in
theorem law_put {E : GE} {g : Cf} {ret : Option FieldType} {xs : Nat → Int32} {bb L : Nat} {x ip ib op lb fa ra m mi ml mt mz my mr mn mw ja : Nat} {ga : Nat → Option Nat} {fo : Nat → Nat} {f of lf rf mlf tf sf yf mrf mnf wf : Nat → Int32} {jf : Nat → Int64} {fd : Nat → FV} {ob cap : Nat} {sz pl os rc pr fc t0 msz mpl te nf mrc wz wr i : Int32} {cN sN S P R : Nat} {fl : FL} {o : List Nat} {b0 : Nat → Nat} (C : Cx E g cL_law RL ret) (r : RF g 19 603072 7198826) (hT : TH g.A g.s g.s.heap) (hl : g.l.stackTraces = false) (hN : g.n = 7) (hX : va_X bb L xs g.s g.s.heap) (hbl : bb < g.s.heap.size) (hbA : ¬ g.A bb) (hga : ∀ j, j < 60 → ga j = some (fo j)) (hL : L ≤ 2560) (k : Nat) (hk : 5 * k + 5 ≤ L) (hi : i.toInt = ((5 * k : Nat) : Int)) (hA : IA k S P f sz pl msz mpl) (hB : IB k fl pr fc fd te nf tf sf yf lf mlf) (hC : IC R b0 rc mrc rf mrf) (hD : ID o cap os wz of wf) (hE : IN k P cap cN sN) (K : LK E g bb L x ip ib op lb fa ra m mi ml mt mz my mr mn mw ja ga fo (k + 1)) : G E g ([(x, .inr (5, [.ref ip, .ref op, .ref lb, .ref fa, .ref ra, .int rc, .int pr, .int fc])), (ip, .inr (3, [.ref ib, .int sz, .int pl])), (ib, aB E (1500) (f)), (op, .inr (4, [.ref ob, .int os])), (ob, aB E (cap) (of)), (lb, aB E (24) (lf)), (fa, aF E (60) (ga)), (ra, aI E (180) (rf)), (m, .inr (6, [.int t0, .ref mi, .int msz, .int mpl, .int te, .ref ml, .ref mt, .ref my, .ref mz, .int nf, .ref mr, .ref mn, .int mrc, .ref mw, .int wz, .int wr])), (mi, aB E (1500) (f)), (ml, aB E (24) (mlf)), (mt, aI E (60) (tf)), (mz, aI E (60) (sf)), (my, aB E (114000) (yf)), (mr, aI E (180) (mrf)), (mn, aI E (180) (mnf)), (mw, aB E (115000) (wf)), (ja, aJ E (1) (jf))] ++ zz E fo fd R60) cN sN 391 [(0, .ref bb), (1, .ref x), (2, .ref m), (3, .ref ja), (4, .int i)] [] := by
  have hA0 := hA
  have hB0 := hB
  have hC0 := hC
  have hD0 := hD
  obtain ⟨hS, hmS, hP, hmP, hPS, hSk, hSm, hBF⟩ := hA0
  obtain ⟨hXP, hMP, hpt, hFW, hLN, hlf⟩ := hB0
  obtain ⟨hrc, hmrc, hR, hRW, hmRW⟩ := hC0
  obtain ⟨hos, hwz, hBo, hBw, hoc, ho5, hc2, hc3⟩ := hD0
  obtain ⟨hcN, hsN⟩ := hE
  refine g_aload_n C dL_law_391 1 rfl ?_
  refine g_aload_n C dL_law_392 0 rfl ?_
  refine g_iload C dL_law_393 4 rfl ?_
  refine g_iconst C dL_law_395 (by decide) (fun x395 e395 => ?_)
  refine g_iadd C dL_law_396 (by omega) (fun x396 e396 => ?_)
  refine g_sld C hX hbl hbA dL_law_397 (5 * k + 1) (by omega) (by omega) ?_
  refine g_aload_n C dL_law_398 0 rfl ?_
  refine g_iload C dL_law_399 4 rfl ?_
  refine g_iconst C dL_law_401 (by decide) (fun x401 e401 => ?_)
  refine g_iadd C dL_law_402 (by omega) (fun x402 e402 => ?_)
  refine g_sld C hX hbl hbA dL_law_403 (5 * k + 2) (by omega) (by omega) ?_
  refine g_callV C r mv_L_64 dL_law_404 (c_X3_put g.l E x fa ga fo fd fl pr fc (xs (5 * k + 1)) (xs (5 * k + 2)) (.ref ip) (.ref op) (.ref lb) (.ref ra) (.int rc) hXP hFW hga) (wr := [(ip, .inr (3, [.ref ib, .int sz, .int pl])), (ib, aB E (1500) (f)), (op, .inr (4, [.ref ob, .int os])), (ob, aB E (cap) (of)), (lb, aB E (24) (lf)), (ra, aI E (180) (rf)), (m, .inr (6, [.int t0, .ref mi, .int msz, .int mpl, .int te, .ref ml, .ref mt, .ref my, .ref mz, .int nf, .ref mr, .ref mn, .int mrc, .ref mw, .int wz, .int wr])), (mi, aB E (1500) (f)), (ml, aB E (24) (mlf)), (mt, aI E (60) (tf)), (mz, aI E (60) (sf)), (my, aB E (114000) (yf)), (mr, aI E (180) (mrf)), (mn, aI E (180) (mnf)), (mw, aB E (115000) (wf)), (ja, aJ E (1) (jf))]) (As := [.int (xs (5 * k + 1)), .int (xs (5 * k + 2))]) (rest := []) (Spl.atP [1, 2, 3, 4, 5, 7, 8, 9, 10, 11, 12, 13, 14, 15, 16, 17] [0, 6] rfl rfl rfl) 0 rfl rfl rfl rfl (Nat.le_of_ble_eq_true rfl) (by decide) (by omega) (by omega) (fun v w h => ?_)
  obtain ⟨x404, fc1, fd1, rfl, d404, rfl⟩ := h
  change G E g ([(ip, .inr (3, [.ref ib, .int sz, .int pl])), (ib, aB E (1500) (f)), (op, .inr (4, [.ref ob, .int os])), (ob, aB E (cap) (of)), (lb, aB E (24) (lf)), (ra, aI E (180) (rf)), (m, .inr (6, [.int t0, .ref mi, .int msz, .int mpl, .int te, .ref ml, .ref mt, .ref my, .ref mz, .int nf, .ref mr, .ref mn, .int mrc, .ref mw, .int wz, .int wr])), (mi, aB E (1500) (f)), (ml, aB E (24) (mlf)), (mt, aI E (60) (tf)), (mz, aI E (60) (sf)), (my, aB E (114000) (yf)), (mr, aI E (180) (mrf)), (mn, aI E (180) (mnf)), (mw, aB E (115000) (wf)), (ja, aJ E (1) (jf)), (x, .inr (5, [.ref ip, .ref op, .ref lb, .ref fa, .ref ra, .int rc, .int pr, .int fc1])), (fa, aF E (60) (ga))] ++ zz E fo fd1 R60) _ _ _ _ [.int x404]
  refine g_aload_n C dL_law_407 2 rfl ?_
  refine g_aload_n C dL_law_408 0 rfl ?_
  refine g_iload C dL_law_409 4 rfl ?_
  refine g_iconst C dL_law_411 (by decide) (fun x411 e411 => ?_)
  refine g_iadd C dL_law_412 (by omega) (fun x412 e412 => ?_)
  refine g_sld C hX hbl hbA dL_law_413 (5 * k + 1) (by omega) (by omega) ?_
  refine g_aload_n C dL_law_414 0 rfl ?_
  refine g_iload C dL_law_415 4 rfl ?_
  refine g_iconst C dL_law_417 (by decide) (fun x417 e417 => ?_)
  refine g_iadd C dL_law_418 (by omega) (fun x418 e418 => ?_)
  refine g_sld C hX hbl hbA dL_law_419 (5 * k + 2) (by omega) (by omega) ?_
  refine g_callV C r mv_L_67 dL_law_420 (c_X4_put g.l E m mt mz my tf sf yf te nf fl t0 (xs (5 * k + 1)) (xs (5 * k + 2)) (.ref mi) (.int msz) (.int mpl) (.ref ml) (.ref mr) (.ref mn) (.int mrc) (.ref mw) (.int wz) (.int wr) hMP hFW) (wr := ([(ip, .inr (3, [.ref ib, .int sz, .int pl])), (ib, aB E (1500) (f)), (op, .inr (4, [.ref ob, .int os])), (ob, aB E (cap) (of)), (lb, aB E (24) (lf)), (ra, aI E (180) (rf)), (mi, aB E (1500) (f)), (ml, aB E (24) (mlf)), (mr, aI E (180) (mrf)), (mn, aI E (180) (mnf)), (mw, aB E (115000) (wf)), (ja, aJ E (1) (jf)), (x, .inr (5, [.ref ip, .ref op, .ref lb, .ref fa, .ref ra, .int rc, .int pr, .int fc1])), (fa, aF E (60) (ga))] ++ zz E fo fd1 R60)) (As := [.int (xs (5 * k + 1)), .int (xs (5 * k + 2))]) (rest := [.int x404]) (Spl.atZ [0, 1, 2, 3, 4, 5, 7, 8, 12, 13, 14, 15, 16, 17] [6, 9, 10, 11] rfl rfl rfl) 0 rfl rfl rfl rfl (Nat.le_of_ble_eq_true rfl) (by decide) (by omega) (by omega) (fun v w h => ?_)
  obtain ⟨x420, t1, nf1, tf1, sf1, yf1, rfl, et1, d420, rfl⟩ := h
  refine g_tail ?_
  change G E g ([(ip, .inr (3, [.ref ib, .int sz, .int pl])), (ib, aB E (1500) (f)), (op, .inr (4, [.ref ob, .int os])), (ob, aB E (cap) (of)), (lb, aB E (24) (lf)), (ra, aI E (180) (rf)), (mi, aB E (1500) (f)), (ml, aB E (24) (mlf)), (mr, aI E (180) (mrf)), (mn, aI E (180) (mnf)), (mw, aB E (115000) (wf)), (ja, aJ E (1) (jf)), (x, .inr (5, [.ref ip, .ref op, .ref lb, .ref fa, .ref ra, .int rc, .int pr, .int fc1])), (fa, aF E (60) (ga)), (m, .inr (6, [.int t1, .ref mi, .int msz, .int mpl, .int te, .ref ml, .ref mt, .ref my, .ref mz, .int nf1, .ref mr, .ref mn, .int mrc, .ref mw, .int wz, .int wr])), (mt, aI E (60) (tf1)), (mz, aI E (60) (sf1)), (my, aB E (114000) (yf1))] ++ zz E fo fd1 R60) _ _ _ _ [.int x420, .int x404]
  obtain ⟨hq, fl2, hB2⟩ := law_pt hB d404 d420
  clear d404 d420
  refine g_icmp_eq C 544 dL_law_423 (by decide) (fun c423 => ?_) (fun c423 => ?_)
  · refine g_iinc C dL_law_544 4 rfl (by rw [hN]; decide) (by decide) (by omega) (fun x544 e544 => ?_)
    refine g_lvE (lv' := [(4, .int x544), (0, .ref bb), (1, .ref x), (2, .ref m), (3, .ref ja)]) rfl ?_
    refine g_goto C 23 dL_law_547 (by decide) ?_
    refine g_lv [1, 2, 3, 4, 0] (lv' := [(0, .ref bb), (1, .ref x), (2, .ref m), (3, .ref ja), (4, .int x544)]) rfl ?_
    refine g_permZ [12, 0, 1, 2, 3, 4, 13, 5, 14, 6, 7, 15, 16, 17, 8, 9, 10, 11] rfl (ws' := [(x, .inr (5, [.ref ip, .ref op, .ref lb, .ref fa, .ref ra, .int rc, .int pr, .int fc1])), (ip, .inr (3, [.ref ib, .int sz, .int pl])), (ib, aB E (1500) (f)), (op, .inr (4, [.ref ob, .int os])), (ob, aB E (cap) (of)), (lb, aB E (24) (lf)), (fa, aF E (60) (ga)), (ra, aI E (180) (rf)), (m, .inr (6, [.int t1, .ref mi, .int msz, .int mpl, .int te, .ref ml, .ref mt, .ref my, .ref mz, .int nf1, .ref mr, .ref mn, .int mrc, .ref mw, .int wz, .int wr])), (mi, aB E (1500) (f)), (ml, aB E (24) (mlf)), (mt, aI E (60) (tf1)), (mz, aI E (60) (sf1)), (my, aB E (114000) (yf1)), (mr, aI E (180) (mrf)), (mn, aI E (180) (mnf)), (mw, aB E (115000) (wf)), (ja, aJ E (1) (jf))]) rfl rfl ?_
    exact K _ _ _ _ _ _ _ _ _ _ _ _ _ _ _ _ _ _ _ _ _ _ _ _ _ _ _ _ _ _ _ _ _ _ _ _ _ _ (by omega) (by omega) hA.up hB2 hC hD ⟨by omega, by omega⟩
  · exfalso; omega
set_option maxHeartbeats 1000000 in
set_option maxRecDepth 10000 in
theorem law_subfield2 {E : GE} {g : Cf} {ret : Option FieldType} {xs : Nat → Int32} {bb L : Nat} {x ip ib op lb fa ra m mi ml mt mz my mr mn mw ja : Nat} {ga : Nat → Option Nat} {fo : Nat → Nat} {f of lf rf mlf tf sf yf mrf mnf wf : Nat → Int32} {jf : Nat → Int64} {fd : Nat → FV} {ob cap : Nat} {sz pl os rc pr fc t0 msz mpl te nf mrc wz wr i : Int32} {cN sN S P R : Nat} {fl : FL} {o : List Nat} {b0 : Nat → Nat} (C : Cx E g cL_law RL ret) (r : RF g 19 603072 7198826) (hT : TH g.A g.s g.s.heap) (hl : g.l.stackTraces = false) (hN : g.n = 7) (hX : va_X bb L xs g.s g.s.heap) (hbl : bb < g.s.heap.size) (hbA : ¬ g.A bb) (hga : ∀ j, j < 60 → ga j = some (fo j)) (hL : L ≤ 2560) (k : Nat) (hk : 5 * k + 5 ≤ L) (hi : i.toInt = ((5 * k : Nat) : Int)) (hA : IA k S P f sz pl msz mpl) (hB : IB k fl pr fc fd te nf tf sf yf lf mlf) (hC : IC R b0 rc mrc rf mrf) (hD : ID o cap os wz of wf) (hE : IN k P cap cN sN) (K : LK E g bb L x ip ib op lb fa ra m mi ml mt mz my mr mn mw ja ga fo (k + 1)) : G E g ([(x, .inr (5, [.ref ip, .ref op, .ref lb, .ref fa, .ref ra, .int rc, .int pr, .int fc])), (ip, .inr (3, [.ref ib, .int sz, .int pl])), (ib, aB E (1500) (f)), (op, .inr (4, [.ref ob, .int os])), (ob, aB E (cap) (of)), (lb, aB E (24) (lf)), (fa, aF E (60) (ga)), (ra, aI E (180) (rf)), (m, .inr (6, [.int t0, .ref mi, .int msz, .int mpl, .int te, .ref ml, .ref mt, .ref my, .ref mz, .int nf, .ref mr, .ref mn, .int mrc, .ref mw, .int wz, .int wr])), (mi, aB E (1500) (f)), (ml, aB E (24) (mlf)), (mt, aI E (60) (tf)), (mz, aI E (60) (sf)), (my, aB E (114000) (yf)), (mr, aI E (180) (mrf)), (mn, aI E (180) (mnf)), (mw, aB E (115000) (wf)), (ja, aJ E (1) (jf))] ++ zz E fo fd R60) cN sN 428 [(0, .ref bb), (1, .ref x), (2, .ref m), (3, .ref ja), (4, .int i)] [] := by
  have hA0 := hA
  have hB0 := hB
  have hC0 := hC
  have hD0 := hD
  obtain ⟨hS, hmS, hP, hmP, hPS, hSk, hSm, hBF⟩ := hA0
  obtain ⟨hXP, hMP, hpt, hFW, hLN, hlf⟩ := hB0
  obtain ⟨hrc, hmrc, hR, hRW, hmRW⟩ := hC0
  obtain ⟨hos, hwz, hBo, hBw, hoc, ho5, hc2, hc3⟩ := hD0
  obtain ⟨hcN, hsN⟩ := hE
  obtain ⟨hF2, hL2⟩ := FW_sub2 (x := (xs (5 * k + 1)).toInt) (code := u8 (xs (5 * k + 2))) (c := u8 (xs (5 * k + 3))) hFW hLN (by omega) (u8_lt _) (u8_lt _)
  refine g_aload_n C dL_law_428 1 rfl ?_
  refine g_aload_n C dL_law_429 0 rfl ?_
  refine g_iload C dL_law_430 4 rfl ?_
  refine g_iconst C dL_law_432 (by decide) (fun x432 e432 => ?_)
  refine g_iadd C dL_law_433 (by omega) (fun x433 e433 => ?_)
  refine g_sld C hX hbl hbA dL_law_434 (5 * k + 1) (by omega) (by omega) ?_
  refine g_aload_n C dL_law_435 0 rfl ?_
  refine g_iload C dL_law_436 4 rfl ?_
  refine g_iconst C dL_law_438 (by decide) (fun x438 e438 => ?_)
  refine g_iadd C dL_law_439 (by omega) (fun x439 e439 => ?_)
  refine g_sld C hX hbl hbA dL_law_440 (5 * k + 2) (by omega) (by omega) ?_
  refine g_aload_n C dL_law_441 0 rfl ?_
  refine g_iload C dL_law_442 4 rfl ?_
  refine g_iconst C dL_law_444 (by decide) (fun x444 e444 => ?_)
  refine g_iadd C dL_law_445 (by omega) (fun x445 e445 => ?_)
  refine g_sld C hX hbl hbA dL_law_446 (5 * k + 3) (by omega) (by omega) ?_
  refine g_callV C r mv_L_68 dL_law_447 (c_X3_subfield2 g.l E x fa ga fo fd fl pr fc (xs (5 * k + 1)) (xs (5 * k + 2)) (xs (5 * k + 3)) (.ref ip) (.ref op) (.ref lb) (.ref ra) (.int rc) hXP hFW hga) (wr := [(ip, .inr (3, [.ref ib, .int sz, .int pl])), (ib, aB E (1500) (f)), (op, .inr (4, [.ref ob, .int os])), (ob, aB E (cap) (of)), (lb, aB E (24) (lf)), (ra, aI E (180) (rf)), (m, .inr (6, [.int t0, .ref mi, .int msz, .int mpl, .int te, .ref ml, .ref mt, .ref my, .ref mz, .int nf, .ref mr, .ref mn, .int mrc, .ref mw, .int wz, .int wr])), (mi, aB E (1500) (f)), (ml, aB E (24) (mlf)), (mt, aI E (60) (tf)), (mz, aI E (60) (sf)), (my, aB E (114000) (yf)), (mr, aI E (180) (mrf)), (mn, aI E (180) (mnf)), (mw, aB E (115000) (wf)), (ja, aJ E (1) (jf))]) (As := [.int (xs (5 * k + 1)), .int (xs (5 * k + 2)), .int (xs (5 * k + 3))]) (rest := []) (Spl.atP [1, 2, 3, 4, 5, 7, 8, 9, 10, 11, 12, 13, 14, 15, 16, 17] [0, 6] rfl rfl rfl) 0 rfl rfl rfl rfl (Nat.le_of_ble_eq_true rfl) (by decide) (by omega) (by omega) (fun v w h => ?_)
  obtain ⟨rfl, fd1, d447, rfl⟩ := h
  change G E g ([(ip, .inr (3, [.ref ib, .int sz, .int pl])), (ib, aB E (1500) (f)), (op, .inr (4, [.ref ob, .int os])), (ob, aB E (cap) (of)), (lb, aB E (24) (lf)), (ra, aI E (180) (rf)), (m, .inr (6, [.int t0, .ref mi, .int msz, .int mpl, .int te, .ref ml, .ref mt, .ref my, .ref mz, .int nf, .ref mr, .ref mn, .int mrc, .ref mw, .int wz, .int wr])), (mi, aB E (1500) (f)), (ml, aB E (24) (mlf)), (mt, aI E (60) (tf)), (mz, aI E (60) (sf)), (my, aB E (114000) (yf)), (mr, aI E (180) (mrf)), (mn, aI E (180) (mnf)), (mw, aB E (115000) (wf)), (ja, aJ E (1) (jf)), (x, .inr (5, [.ref ip, .ref op, .ref lb, .ref fa, .ref ra, .int rc, .int pr, .int fc])), (fa, aF E (60) (ga))] ++ zz E fo fd1 R60) _ _ _ _ []
  refine g_aload_n C dL_law_450 2 rfl ?_
  refine g_aload_n C dL_law_451 0 rfl ?_
  refine g_iload C dL_law_452 4 rfl ?_
  refine g_iconst C dL_law_454 (by decide) (fun x454 e454 => ?_)
  refine g_iadd C dL_law_455 (by omega) (fun x455 e455 => ?_)
  refine g_sld C hX hbl hbA dL_law_456 (5 * k + 1) (by omega) (by omega) ?_
  refine g_aload_n C dL_law_457 0 rfl ?_
  refine g_iload C dL_law_458 4 rfl ?_
  refine g_iconst C dL_law_460 (by decide) (fun x460 e460 => ?_)
  refine g_iadd C dL_law_461 (by omega) (fun x461 e461 => ?_)
  refine g_sld C hX hbl hbA dL_law_462 (5 * k + 2) (by omega) (by omega) ?_
  refine g_aload_n C dL_law_463 0 rfl ?_
  refine g_iload C dL_law_464 4 rfl ?_
  refine g_iconst C dL_law_466 (by decide) (fun x466 e466 => ?_)
  refine g_iadd C dL_law_467 (by omega) (fun x467 e467 => ?_)
  refine g_sld C hX hbl hbA dL_law_468 (5 * k + 3) (by omega) (by omega) ?_
  refine g_callV C r mv_L_72 dL_law_469 (c_X4_subfield2 g.l E m mt mz my tf sf yf te nf fl t0 (xs (5 * k + 1)) (xs (5 * k + 2)) (xs (5 * k + 3)) (.ref mi) (.int msz) (.int mpl) (.ref ml) (.ref mr) (.ref mn) (.int mrc) (.ref mw) (.int wz) (.int wr) hMP hFW) (wr := ([(ip, .inr (3, [.ref ib, .int sz, .int pl])), (ib, aB E (1500) (f)), (op, .inr (4, [.ref ob, .int os])), (ob, aB E (cap) (of)), (lb, aB E (24) (lf)), (ra, aI E (180) (rf)), (mi, aB E (1500) (f)), (ml, aB E (24) (mlf)), (mr, aI E (180) (mrf)), (mn, aI E (180) (mnf)), (mw, aB E (115000) (wf)), (ja, aJ E (1) (jf)), (x, .inr (5, [.ref ip, .ref op, .ref lb, .ref fa, .ref ra, .int rc, .int pr, .int fc])), (fa, aF E (60) (ga))] ++ zz E fo fd1 R60)) (As := [.int (xs (5 * k + 1)), .int (xs (5 * k + 2)), .int (xs (5 * k + 3))]) (rest := []) (Spl.atZ [0, 1, 2, 3, 4, 5, 7, 8, 12, 13, 14, 15, 16, 17] [6, 9, 10, 11] rfl rfl rfl) 0 rfl rfl rfl rfl (Nat.le_of_ble_eq_true rfl) (by decide) (by omega) (by omega) (fun v w h => ?_)
  obtain ⟨rfl, t1, sf1, yf1, et1, d469, rfl⟩ := h
  refine g_tail ?_
  change G E g ([(ip, .inr (3, [.ref ib, .int sz, .int pl])), (ib, aB E (1500) (f)), (op, .inr (4, [.ref ob, .int os])), (ob, aB E (cap) (of)), (lb, aB E (24) (lf)), (ra, aI E (180) (rf)), (mi, aB E (1500) (f)), (ml, aB E (24) (mlf)), (mr, aI E (180) (mrf)), (mn, aI E (180) (mnf)), (mw, aB E (115000) (wf)), (ja, aJ E (1) (jf)), (x, .inr (5, [.ref ip, .ref op, .ref lb, .ref fa, .ref ra, .int rc, .int pr, .int fc])), (fa, aF E (60) (ga)), (m, .inr (6, [.int t1, .ref mi, .int msz, .int mpl, .int te, .ref ml, .ref mt, .ref my, .ref mz, .int nf, .ref mr, .ref mn, .int mrc, .ref mw, .int wz, .int wr])), (mt, aI E (60) (tf)), (mz, aI E (60) (sf1)), (my, aB E (114000) (yf1))] ++ zz E fo fd1 R60) _ _ _ _ []
  refine g_goto C 544 dL_law_472 (by decide) ?_
  refine g_iinc C dL_law_544 4 rfl (by rw [hN]; decide) (by decide) (by omega) (fun x544 e544 => ?_)
  refine g_lvE (lv' := [(4, .int x544), (0, .ref bb), (1, .ref x), (2, .ref m), (3, .ref ja)]) rfl ?_
  refine g_goto C 23 dL_law_547 (by decide) ?_
  refine g_lv [1, 2, 3, 4, 0] (lv' := [(0, .ref bb), (1, .ref x), (2, .ref m), (3, .ref ja), (4, .int x544)]) rfl ?_
  refine g_permZ [12, 0, 1, 2, 3, 4, 13, 5, 14, 6, 7, 15, 16, 17, 8, 9, 10, 11] rfl (ws' := [(x, .inr (5, [.ref ip, .ref op, .ref lb, .ref fa, .ref ra, .int rc, .int pr, .int fc])), (ip, .inr (3, [.ref ib, .int sz, .int pl])), (ib, aB E (1500) (f)), (op, .inr (4, [.ref ob, .int os])), (ob, aB E (cap) (of)), (lb, aB E (24) (lf)), (fa, aF E (60) (ga)), (ra, aI E (180) (rf)), (m, .inr (6, [.int t1, .ref mi, .int msz, .int mpl, .int te, .ref ml, .ref mt, .ref my, .ref mz, .int nf, .ref mr, .ref mn, .int mrc, .ref mw, .int wz, .int wr])), (mi, aB E (1500) (f)), (ml, aB E (24) (mlf)), (mt, aI E (60) (tf)), (mz, aI E (60) (sf1)), (my, aB E (114000) (yf1)), (mr, aI E (180) (mrf)), (mn, aI E (180) (mnf)), (mw, aB E (115000) (wf)), (ja, aJ E (1) (jf))]) rfl rfl ?_
  exact K _ _ _ _ _ _ _ _ _ _ _ _ _ _ _ _ _ _ _ _ _ _ _ _ _ _ _ _ _ _ _ _ _ _ _ _ _ _ (by omega) (by omega) hA.up ⟨d447, d469, hpt, hF2, hL2, hlf⟩ hC hD ⟨by omega, by omega⟩
set_option maxHeartbeats 1000000 in
set_option maxRecDepth 10000 in
theorem law_write {E : GE} {g : Cf} {ret : Option FieldType} {xs : Nat → Int32} {bb L : Nat} {x ip ib op lb fa ra m mi ml mt mz my mr mn mw ja : Nat} {ga : Nat → Option Nat} {fo : Nat → Nat} {f of lf rf mlf tf sf yf mrf mnf wf : Nat → Int32} {jf : Nat → Int64} {fd : Nat → FV} {ob cap : Nat} {sz pl os rc pr fc t0 msz mpl te nf mrc wz wr i : Int32} {cN sN S P R : Nat} {fl : FL} {o : List Nat} {b0 : Nat → Nat} (C : Cx E g cL_law RL ret) (r : RF g 19 603072 7198826) (hT : TH g.A g.s g.s.heap) (hl : g.l.stackTraces = false) (hN : g.n = 7) (hX : va_X bb L xs g.s g.s.heap) (hbl : bb < g.s.heap.size) (hbA : ¬ g.A bb) (hga : ∀ j, j < 60 → ga j = some (fo j)) (hL : L ≤ 2560) (k : Nat) (hk : 5 * k + 5 ≤ L) (hi : i.toInt = ((5 * k : Nat) : Int)) (hA : IA k S P f sz pl msz mpl) (hB : IB k fl pr fc fd te nf tf sf yf lf mlf) (hC : IC R b0 rc mrc rf mrf) (hD : ID o cap os wz of wf) (hE : IN k P cap cN sN) (K : LK E g bb L x ip ib op lb fa ra m mi ml mt mz my mr mn mw ja ga fo (k + 1)) : G E g ([(x, .inr (5, [.ref ip, .ref op, .ref lb, .ref fa, .ref ra, .int rc, .int pr, .int fc])), (ip, .inr (3, [.ref ib, .int sz, .int pl])), (ib, aB E (1500) (f)), (op, .inr (4, [.ref ob, .int os])), (ob, aB E (cap) (of)), (lb, aB E (24) (lf)), (fa, aF E (60) (ga)), (ra, aI E (180) (rf)), (m, .inr (6, [.int t0, .ref mi, .int msz, .int mpl, .int te, .ref ml, .ref mt, .ref my, .ref mz, .int nf, .ref mr, .ref mn, .int mrc, .ref mw, .int wz, .int wr])), (mi, aB E (1500) (f)), (ml, aB E (24) (mlf)), (mt, aI E (60) (tf)), (mz, aI E (60) (sf)), (my, aB E (114000) (yf)), (mr, aI E (180) (mrf)), (mn, aI E (180) (mnf)), (mw, aB E (115000) (wf)), (ja, aJ E (1) (jf))] ++ zz E fo fd R60) cN sN 475 [(0, .ref bb), (1, .ref x), (2, .ref m), (3, .ref ja), (4, .int i)] [] := by
  have hA0 := hA
  have hB0 := hB
  have hC0 := hC
  have hD0 := hD
  obtain ⟨hS, hmS, hP, hmP, hPS, hSk, hSm, hBF⟩ := hA0
  obtain ⟨hXP, hMP, hpt, hFW, hLN, hlf⟩ := hB0
  obtain ⟨hrc, hmrc, hR, hRW, hmRW⟩ := hC0
  obtain ⟨hos, hwz, hBo, hBw, hoc, ho5, hc2, hc3⟩ := hD0
  obtain ⟨hcN, hsN⟩ := hE
  have hwc := wrC_in (pr := pr) hFW hc3
  refine g_aload_n C dL_law_475 1 rfl ?_
  refine g_callV C r mv_L_73 dL_law_476 (c_X3_write g.l E x op ob cap lb fa of lf os ga fo fd fl pr fc (.ref ip) (.ref ra) (.int rc) hXP hFW hga hc3) (wr := [(ip, .inr (3, [.ref ib, .int sz, .int pl])), (ib, aB E (1500) (f)), (ra, aI E (180) (rf)), (m, .inr (6, [.int t0, .ref mi, .int msz, .int mpl, .int te, .ref ml, .ref mt, .ref my, .ref mz, .int nf, .ref mr, .ref mn, .int mrc, .ref mw, .int wz, .int wr])), (mi, aB E (1500) (f)), (ml, aB E (24) (mlf)), (mt, aI E (60) (tf)), (mz, aI E (60) (sf)), (my, aB E (114000) (yf)), (mr, aI E (180) (mrf)), (mn, aI E (180) (mnf)), (mw, aB E (115000) (wf)), (ja, aJ E (1) (jf))]) (As := []) (rest := []) (Spl.atP [1, 2, 7, 8, 9, 10, 11, 12, 13, 14, 15, 16, 17] [0, 3, 4, 5, 6] rfl rfl rfl) 0 rfl rfl rfl rfl (Nat.le_of_ble_eq_true rfl) (by decide) (by omega) (by omega) (fun v w h => ?_)
  obtain ⟨x476, os1, q1, of1, rfl, d476, rfl⟩ := h
  change G E g ([(ip, .inr (3, [.ref ib, .int sz, .int pl])), (ib, aB E (1500) (f)), (ra, aI E (180) (rf)), (m, .inr (6, [.int t0, .ref mi, .int msz, .int mpl, .int te, .ref ml, .ref mt, .ref my, .ref mz, .int nf, .ref mr, .ref mn, .int mrc, .ref mw, .int wz, .int wr])), (mi, aB E (1500) (f)), (ml, aB E (24) (mlf)), (mt, aI E (60) (tf)), (mz, aI E (60) (sf)), (my, aB E (114000) (yf)), (mr, aI E (180) (mrf)), (mn, aI E (180) (mnf)), (mw, aB E (115000) (wf)), (ja, aJ E (1) (jf)), (x, .inr (5, [.ref ip, .ref op, .ref lb, .ref fa, .ref ra, .int rc, .int pr, .int fc])), (op, .inr (4, [.ref q1, .int os1])), (q1, aB E (wrC pr fl cap) (of1)), (lb, aB E (24) (lf)), (fa, aF E (60) (ga))] ++ zz E fo fd R60) _ _ _ _ [.int x476]
  refine g_aload_n C dL_law_479 2 rfl ?_
  refine g_callV C r mv_L_76 dL_law_480 (c_X4_write g.l E m ml mt mz my mw mlf wf tf sf yf te nf fl t0 wz o (.ref mi) (.int msz) (.int mpl) (.ref mr) (.ref mn) (.int mrc) (.int wr) hMP hFW hwz hBw) (wr := ([(ip, .inr (3, [.ref ib, .int sz, .int pl])), (ib, aB E (1500) (f)), (ra, aI E (180) (rf)), (mi, aB E (1500) (f)), (mr, aI E (180) (mrf)), (mn, aI E (180) (mnf)), (ja, aJ E (1) (jf)), (x, .inr (5, [.ref ip, .ref op, .ref lb, .ref fa, .ref ra, .int rc, .int pr, .int fc])), (op, .inr (4, [.ref q1, .int os1])), (q1, aB E (wrC pr fl cap) (of1)), (lb, aB E (24) (lf)), (fa, aF E (60) (ga))] ++ zz E fo fd R60)) (As := []) (rest := [.int x476]) (Spl.atZ [0, 1, 2, 4, 9, 10, 12, 13, 14, 15, 16, 17] [3, 5, 6, 7, 8, 11] rfl rfl rfl) 0 rfl rfl rfl rfl (Nat.le_of_ble_eq_true rfl) (by decide) (by omega) (by omega) (fun v w h => ?_)
  obtain ⟨x480, t1, wz1, wf1, rfl, et1, d480, rfl⟩ := h
  refine g_tail ?_
  change G E g ([(ip, .inr (3, [.ref ib, .int sz, .int pl])), (ib, aB E (1500) (f)), (ra, aI E (180) (rf)), (mi, aB E (1500) (f)), (mr, aI E (180) (mrf)), (mn, aI E (180) (mnf)), (ja, aJ E (1) (jf)), (x, .inr (5, [.ref ip, .ref op, .ref lb, .ref fa, .ref ra, .int rc, .int pr, .int fc])), (op, .inr (4, [.ref q1, .int os1])), (q1, aB E (wrC pr fl cap) (of1)), (lb, aB E (24) (lf)), (fa, aF E (60) (ga)), (m, .inr (6, [.int t1, .ref mi, .int msz, .int mpl, .int te, .ref ml, .ref mt, .ref my, .ref mz, .int nf, .ref mr, .ref mn, .int mrc, .ref mw, .int wz1, .int wr])), (ml, aB E (24) (mlf)), (mt, aI E (60) (tf)), (mz, aI E (60) (sf)), (my, aB E (114000) (yf)), (mw, aB E (115000) (wf1))] ++ zz E fo fd R60) _ _ _ _ [.int x480, .int x476]
  obtain ⟨hq, o2, hD2⟩ := law_wr hB hD d476 d480
  clear d476 d480
  refine g_icmp_eq C 544 dL_law_483 (by decide) (fun c483 => ?_) (fun c483 => ?_)
  · refine g_iinc C dL_law_544 4 rfl (by rw [hN]; decide) (by decide) (by omega) (fun x544 e544 => ?_)
    refine g_lvE (lv' := [(4, .int x544), (0, .ref bb), (1, .ref x), (2, .ref m), (3, .ref ja)]) rfl ?_
    refine g_goto C 23 dL_law_547 (by decide) ?_
    refine g_lv [1, 2, 3, 4, 0] (lv' := [(0, .ref bb), (1, .ref x), (2, .ref m), (3, .ref ja), (4, .int x544)]) rfl ?_
    refine g_permZ [7, 0, 1, 8, 9, 10, 11, 2, 12, 3, 13, 14, 15, 16, 4, 5, 17, 6] rfl (ws' := [(x, .inr (5, [.ref ip, .ref op, .ref lb, .ref fa, .ref ra, .int rc, .int pr, .int fc])), (ip, .inr (3, [.ref ib, .int sz, .int pl])), (ib, aB E (1500) (f)), (op, .inr (4, [.ref q1, .int os1])), (q1, aB E (wrC pr fl cap) (of1)), (lb, aB E (24) (lf)), (fa, aF E (60) (ga)), (ra, aI E (180) (rf)), (m, .inr (6, [.int t1, .ref mi, .int msz, .int mpl, .int te, .ref ml, .ref mt, .ref my, .ref mz, .int nf, .ref mr, .ref mn, .int mrc, .ref mw, .int wz1, .int wr])), (mi, aB E (1500) (f)), (ml, aB E (24) (mlf)), (mt, aI E (60) (tf)), (mz, aI E (60) (sf)), (my, aB E (114000) (yf)), (mr, aI E (180) (mrf)), (mn, aI E (180) (mnf)), (mw, aB E (115000) (wf1)), (ja, aJ E (1) (jf))]) rfl rfl ?_
    exact K _ _ _ _ _ _ _ _ _ _ _ _ _ _ _ _ _ _ _ _ _ _ _ _ _ _ _ _ _ _ _ _ _ _ _ _ _ _ (by omega) (by omega) hA.up hB.up hC hD2 ⟨by omega, by omega⟩
  · exfalso; omega
set_option maxHeartbeats 1000000 in
set_option maxRecDepth 10000 in
theorem law_skip {E : GE} {g : Cf} {ret : Option FieldType} {xs : Nat → Int32} {bb L : Nat} {x ip ib op lb fa ra m mi ml mt mz my mr mn mw ja : Nat} {ga : Nat → Option Nat} {fo : Nat → Nat} {f of lf rf mlf tf sf yf mrf mnf wf : Nat → Int32} {jf : Nat → Int64} {fd : Nat → FV} {ob cap : Nat} {sz pl os rc pr fc t0 msz mpl te nf mrc wz wr i : Int32} {cN sN S P R : Nat} {fl : FL} {o : List Nat} {b0 : Nat → Nat} (C : Cx E g cL_law RL ret) (r : RF g 19 603072 7198826) (hT : TH g.A g.s g.s.heap) (hl : g.l.stackTraces = false) (hN : g.n = 7) (hX : va_X bb L xs g.s g.s.heap) (hbl : bb < g.s.heap.size) (hbA : ¬ g.A bb) (hga : ∀ j, j < 60 → ga j = some (fo j)) (hL : L ≤ 2560) (k : Nat) (hk : 5 * k + 5 ≤ L) (hi : i.toInt = ((5 * k : Nat) : Int)) (hA : IA k S P f sz pl msz mpl) (hB : IB k fl pr fc fd te nf tf sf yf lf mlf) (hC : IC R b0 rc mrc rf mrf) (hD : ID o cap os wz of wf) (hE : IN k P cap cN sN) (K : LK E g bb L x ip ib op lb fa ra m mi ml mt mz my mr mn mw ja ga fo (k + 1)) : G E g ([(x, .inr (5, [.ref ip, .ref op, .ref lb, .ref fa, .ref ra, .int rc, .int pr, .int fc])), (ip, .inr (3, [.ref ib, .int sz, .int pl])), (ib, aB E (1500) (f)), (op, .inr (4, [.ref ob, .int os])), (ob, aB E (cap) (of)), (lb, aB E (24) (lf)), (fa, aF E (60) (ga)), (ra, aI E (180) (rf)), (m, .inr (6, [.int t0, .ref mi, .int msz, .int mpl, .int te, .ref ml, .ref mt, .ref my, .ref mz, .int nf, .ref mr, .ref mn, .int mrc, .ref mw, .int wz, .int wr])), (mi, aB E (1500) (f)), (ml, aB E (24) (mlf)), (mt, aI E (60) (tf)), (mz, aI E (60) (sf)), (my, aB E (114000) (yf)), (mr, aI E (180) (mrf)), (mn, aI E (180) (mnf)), (mw, aB E (115000) (wf)), (ja, aJ E (1) (jf))] ++ zz E fo fd R60) cN sN 544 [(0, .ref bb), (1, .ref x), (2, .ref m), (3, .ref ja), (4, .int i)] [] := by
  have hA0 := hA
  have hB0 := hB
  have hC0 := hC
  have hD0 := hD
  obtain ⟨hS, hmS, hP, hmP, hPS, hSk, hSm, hBF⟩ := hA0
  obtain ⟨hXP, hMP, hpt, hFW, hLN, hlf⟩ := hB0
  obtain ⟨hrc, hmrc, hR, hRW, hmRW⟩ := hC0
  obtain ⟨hos, hwz, hBo, hBw, hoc, ho5, hc2, hc3⟩ := hD0
  obtain ⟨hcN, hsN⟩ := hE
  refine g_iinc C dL_law_544 4 rfl (by rw [hN]; decide) (by decide) (by omega) (fun x544 e544 => ?_)
  refine g_lvE (lv' := [(4, .int x544), (0, .ref bb), (1, .ref x), (2, .ref m), (3, .ref ja)]) rfl ?_
  refine g_goto C 23 dL_law_547 (by decide) ?_
  refine g_lv [1, 2, 3, 4, 0] (lv' := [(0, .ref bb), (1, .ref x), (2, .ref m), (3, .ref ja), (4, .int x544)]) rfl ?_
  exact K _ _ _ _ _ _ _ _ _ _ _ _ _ _ _ _ _ _ _ _ _ _ _ _ _ _ _ _ _ _ _ _ _ _ _ _ _ _ (by omega) (by omega) hA.up hB.up hC hD ⟨by omega, by omega⟩
