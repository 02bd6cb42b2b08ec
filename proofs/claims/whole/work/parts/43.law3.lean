set_option maxHeartbeats 1000000 in
set_option maxRecDepth 10000 in
theorem law_loop {E : GE} {g : Cf} {ret : Option FieldType} {xs : Nat → Int32} {bb L : Nat} {x ip ib op lb fa ra m mi ml mt mz my mr mn mw ja : Nat} {ga : Nat → Option Nat} {fo : Nat → Nat} (C : Cx E g cL_law RL ret) (r : RF g 19 603072 7198826) (hT : TH g.A g.s g.s.heap) (hl : g.l.stackTraces = false) (hN : g.n = 7) (hX : va_X bb L xs g.s g.s.heap) (hbl : bb < g.s.heap.size) (hbA : ¬ g.A bb) (hga : ∀ j, j < 60 → ga j = some (fo j)) (hL : L ≤ 2560) (hret : ∀ (ws : va_W) (cells slots : Nat) (lv : List (Nat × Value)), cells ≤ 603072 → slots ≤ 7198826 → G E g ws cells slots 550 lv []) : ∀ (nn k : Nat), L - 5 * k < nn → LK E g bb L x ip ib op lb fa ra m mi ml mt mz my mr mn mw ja ga fo k := by
  intro nn
  induction nn with
  | zero => intro k hm; omega
  | succ nn ih =>
    intro k hm f of lf rf mlf tf sf yf mrf mnf wf jf fd ob cap sz pl os rc pr fc t0 msz mpl te nf mrc wz wr i cN sN S P R fl o b0 hi hkL hA hB hC hD hE
    have hcN := hE.1
    have hsN := hE.2
    have hPk : P ≤ k := Nat.le_trans hA.2.2.2.2.1 hA.2.2.2.2.2.1
    have hcap : cap ≤ 220000 := hD.2.2.2.2.2.2.2
    refine g_iload C dL_law_23 4 rfl ?_
    refine g_aload_n C dL_law_25 0 rfl ?_
    refine g_slen C hX hbl hbA dL_law_26 (by omega) (fun x26 e26 => ?_)
    refine g_iconst C dL_law_27 (by decide) (fun x27 e27 => ?_)
    refine g_isub C dL_law_28 (by omega) (fun x28 e28 => ?_)
    refine g_icmp_gt C 550 dL_law_29 (by decide) (fun c29 => ?_) (fun c29 => ?_)
    · exact hret _ _ _ _ (by omega) (by omega)
    · have hk5 : 5 * k + 5 ≤ L := by omega
      have K := ih (k + 1) (by omega)
      refine g_aload_n C dL_law_32 0 rfl ?_
      refine g_iload C dL_law_33 4 rfl ?_
      refine g_sld C hX hbl hbA dL_law_35 (5 * k) (by omega) (by omega) ?_
      refine g_bipush C dL_law_36 (by decide) (fun x36 e36 => ?_)
      refine g_iand C dL_law_38 (fun z => ?_)
      by_cases h0 : z.toInt = 0
      · refine g_tabI C 100 dL_law_39 (by omega) (by omega) (off := 61) (by rw [h0]; rfl) (by decide) ?_
        exact law_add C r hT hl hN hX hbl hbA hga hL k hk5 hi hA hB hC hD hE K
      by_cases h1 : z.toInt = 1
      · refine g_tabI C 125 dL_law_39 (by omega) (by omega) (off := 86) (by rw [h1]; rfl) (by decide) ?_
        exact law_read C r hT hl hN hX hbl hbA hga hL k hk5 hi hA hB hC hD hE K
      by_cases h2 : z.toInt = 2
      · refine g_tabI C 138 dL_law_39 (by omega) (by omega) (off := 99) (by rw [h2]; rfl) (by decide) ?_
        exact law_field C r hT hl hN hX hbl hbA hga hL k hk5 hi hA hB hC hD hE K
      by_cases h3 : z.toInt = 3
      · refine g_tabI C 175 dL_law_39 (by omega) (by omega) (off := 136) (by rw [h3]; rfl) (by decide) ?_
        exact law_indicator C r hT hl hN hX hbl hbA hga hL k hk5 hi hA hB hC hD hE K
      by_cases h4 : z.toInt = 4
      · refine g_tabI C 212 dL_law_39 (by omega) (by omega) (off := 173) (by rw [h4]; rfl) (by decide) ?_
        exact law_subfield C r hT hl hN hX hbl hbA hga hL k hk5 hi hA hB hC hD hE K
      by_cases h5 : z.toInt = 5
      · refine g_tabI C 273 dL_law_39 (by omega) (by omega) (off := 234) (by rw [h5]; rfl) (by decide) ?_
        exact law_directory C r hT hl hN hX hbl hbA hga hL k hk5 hi hA hB hC hD hE K
      by_cases h6 : z.toInt = 6
      · refine g_tabI C 341 dL_law_39 (by omega) (by omega) (off := 302) (by rw [h6]; rfl) (by decide) ?_
        exact law_length C r hT hl hN hX hbl hbA hga hL k hk5 hi hA hB hC hD hE K
      by_cases h7 : z.toInt = 7
      · refine g_tabI C 354 dL_law_39 (by omega) (by omega) (off := 315) (by rw [h7]; rfl) (by decide) ?_
        exact law_leader C r hT hl hN hX hbl hbA hga hL k hk5 hi hA hB hC hD hE K
      by_cases h8 : z.toInt = 8
      · refine g_tabI C 391 dL_law_39 (by omega) (by omega) (off := 352) (by rw [h8]; rfl) (by decide) ?_
        exact law_put C r hT hl hN hX hbl hbA hga hL k hk5 hi hA hB hC hD hE K
      by_cases h9 : z.toInt = 9
      · refine g_tabI C 428 dL_law_39 (by omega) (by omega) (off := 389) (by rw [h9]; rfl) (by decide) ?_
        exact law_subfield2 C r hT hl hN hX hbl hbA hga hL k hk5 hi hA hB hC hD hE K
      by_cases h10 : z.toInt = 10
      · refine g_tabI C 475 dL_law_39 (by omega) (by omega) (off := 436) (by rw [h10]; rfl) (by decide) ?_
        exact law_write C r hT hl hN hX hbl hbA hga hL k hk5 hi hA hB hC hD hE K
      by_cases h11 : z.toInt = 11
      · refine g_tabI C 488 dL_law_39 (by omega) (by omega) (off := 449) (by rw [h11]; rfl) (by decide) ?_
        exact law_octet C r hT hl hN hX hbl hbA hga hL k hk5 hi hA hB hC hD hE K
      refine g_tabO C 544 dL_law_39 (by omega) (by decide) ?_
      exact law_skip C r hT hl hN hX hbl hbA hga hL k hk5 hi hA hB hC hD hE K
set_option maxHeartbeats 1000000 in
set_option maxRecDepth 10000 in
theorem law_all {E : GE} {g : Cf} {ret : Option FieldType} {xs : Nat → Int32} {bb L : Nat} (C : Cx E g cL_law RL ret) (r : RF g 19 603072 7198826) (hT : TH g.A g.s g.s.heap) (hl : g.l.stackTraces = false) (hN : g.n = 7) (hX : va_X bb L xs g.s g.s.heap) (hbl : bb < g.s.heap.size) (hbA : ¬ g.A bb) (hL : L ≤ 2560) (hao : va_AO "ExchangeRecords$Field" g.s) (hret : ∀ (ws : va_W) (cells slots : Nat) (lv : List (Nat × Value)), cells ≤ 603072 → slots ≤ 7198826 → G E g ws cells slots 550 lv []) : G E g [] 0 0 0 [(0, .ref bb)] [] := by
  refine g_new C r inG_X3 tyX3 tyX3_ok kw1_15 kw1_16 kw1_1 (ci := 5) rfl (fs := [.null, .null, .null, .null, .null, .int 0, .int 0, .int 0]) (fun j hj => by rcases (show j = 0 ∨ j = 1 ∨ j = 2 ∨ j = 3 ∨ j = 4 ∨ j = 5 ∨ j = 6 ∨ j = 7 by omega) with rfl | rfl | rfl | rfl | rfl | rfl | rfl | rfl <;> rfl) (by omega) (by omega) dL_law_0 (fun q0 => ?_)
  change G E g [(q0, .inr (5, [.null, .null, .null, .null, .null, .int 0, .int 0, .int 0]))] _ _ _ _ _
  refine g_dup C dL_law_3 rfl ?_
  refine g_callIJ C r hao mi_L_19 dL_law_4 (c_X3_init g.l E q0 0 0 0) (wr := []) (As := []) (rest := [.ref q0]) (Spl.at [] [0] rfl rfl rfl) rfl (Nat.le_of_ble_eq_true rfl) (by decide) (by omega) (by omega) (fun v w h => ?_)
  obtain ⟨rfl, ip, ib, op, ob, lb, fa, ra, sz, pl, os, rc, pr, fc, ga, fo, fd, hsz, hpl, hos, hrc, hpr, hfc, hga, hFG, rfl⟩ := h
  change G E g ([(q0, .inr (5, [.ref ip, .ref op, .ref lb, .ref fa, .ref ra, .int rc, .int pr, .int fc])), (ip, .inr (3, [.ref ib, .int sz, .int pl])), (ib, aB E (1500) (fun _ => 0)), (op, .inr (4, [.ref ob, .int os])), (ob, aB E (256) (fun _ => 0)), (lb, aB E (24) (fun _ => 0)), (fa, aF E (60) (ga)), (ra, aI E (180) (fun _ => 0))] ++ zz E fo fd R60) _ _ _ _ [.ref q0]
  refine g_astore_n C dL_law_7 (by rw [hN]; decide) (lv' := [(1, .ref q0), (0, .ref bb)]) rfl ?_
  refine g_new C r inG_X4 tyX4 tyX4_ok kw2_203 kw2_204 kw1_5 (ci := 6) rfl (fs := [.int 0, .null, .int 0, .int 0, .int 0, .null, .null, .null, .null, .int 0, .null, .null, .int 0, .null, .int 0, .int 0]) (fun j hj => by rcases (show j = 0 ∨ j = 1 ∨ j = 2 ∨ j = 3 ∨ j = 4 ∨ j = 5 ∨ j = 6 ∨ j = 7 ∨ j = 8 ∨ j = 9 ∨ j = 10 ∨ j = 11 ∨ j = 12 ∨ j = 13 ∨ j = 14 ∨ j = 15 by omega) with rfl | rfl | rfl | rfl | rfl | rfl | rfl | rfl | rfl | rfl | rfl | rfl | rfl | rfl | rfl | rfl <;> rfl) (by omega) (by omega) dL_law_8 (fun q8 => ?_)
  refine g_swap (X := [(q0, .inr (5, [.ref ip, .ref op, .ref lb, .ref fa, .ref ra, .int rc, .int pr, .int fc])), (ip, .inr (3, [.ref ib, .int sz, .int pl])), (ib, aB E (1500) (fun _ => 0)), (op, .inr (4, [.ref ob, .int os])), (ob, aB E (256) (fun _ => 0)), (lb, aB E (24) (fun _ => 0)), (fa, aF E (60) (ga)), (ra, aI E (180) (fun _ => 0))]) (Z := zz E fo fd R60) (Y := [(q8, .inr (6, [.int 0, .null, .int 0, .int 0, .int 0, .null, .null, .null, .null, .int 0, .null, .null, .int 0, .null, .int 0, .int 0]))]) ?_
  change G E g ([(q0, .inr (5, [.ref ip, .ref op, .ref lb, .ref fa, .ref ra, .int rc, .int pr, .int fc])), (ip, .inr (3, [.ref ib, .int sz, .int pl])), (ib, aB E (1500) (fun _ => 0)), (op, .inr (4, [.ref ob, .int os])), (ob, aB E (256) (fun _ => 0)), (lb, aB E (24) (fun _ => 0)), (fa, aF E (60) (ga)), (ra, aI E (180) (fun _ => 0)), (q8, .inr (6, [.int 0, .null, .int 0, .int 0, .int 0, .null, .null, .null, .null, .int 0, .null, .null, .int 0, .null, .int 0, .int 0]))] ++ zz E fo fd R60) _ _ _ _ _
  refine g_dup C dL_law_11 rfl ?_
  refine g_callI C r mi_L_22 dL_law_12 (c_X4_init g.l E q8 0 0 0 0 0 0 0 0) (wr := ([(q0, .inr (5, [.ref ip, .ref op, .ref lb, .ref fa, .ref ra, .int rc, .int pr, .int fc])), (ip, .inr (3, [.ref ib, .int sz, .int pl])), (ib, aB E (1500) (fun _ => 0)), (op, .inr (4, [.ref ob, .int os])), (ob, aB E (256) (fun _ => 0)), (lb, aB E (24) (fun _ => 0)), (fa, aF E (60) (ga)), (ra, aI E (180) (fun _ => 0))] ++ zz E fo fd R60)) (As := []) (rest := [.ref q8]) (Spl.atZ [0, 1, 2, 3, 4, 5, 6, 7] [8] rfl rfl rfl) rfl (Nat.le_of_ble_eq_true rfl) (by decide) (by omega) (by omega) (fun v w h => ?_)
  obtain ⟨rfl, mi, ml, mt, my, mz, mr, mn, mw, rfl⟩ := h
  refine g_tail ?_
  change G E g ([(q0, .inr (5, [.ref ip, .ref op, .ref lb, .ref fa, .ref ra, .int rc, .int pr, .int fc])), (ip, .inr (3, [.ref ib, .int sz, .int pl])), (ib, aB E (1500) (fun _ => 0)), (op, .inr (4, [.ref ob, .int os])), (ob, aB E (256) (fun _ => 0)), (lb, aB E (24) (fun _ => 0)), (fa, aF E (60) (ga)), (ra, aI E (180) (fun _ => 0)), (q8, .inr (6, [.int 0, .ref mi, .int 0, .int 0, .int 0, .ref ml, .ref mt, .ref my, .ref mz, .int 0, .ref mr, .ref mn, .int 0, .ref mw, .int 0, .int 0])), (mi, aB E (1500) (fun _ => 0)), (ml, aB E (24) (fun _ => 0)), (mt, aI E (60) (fun _ => 0)), (my, aB E (114000) (fun _ => 0)), (mz, aI E (60) (fun _ => 0)), (mr, aI E (180) (fun _ => 0)), (mn, aI E (180) (fun _ => 0)), (mw, aB E (115000) (fun _ => 0))] ++ zz E fo fd R60) _ _ _ _ [.ref q8]
  refine g_astore_n C dL_law_15 (by rw [hN]; decide) (lv' := [(2, .ref q8), (1, .ref q0), (0, .ref bb)]) rfl ?_
  refine g_iconst C dL_law_16 (by decide) (fun x16 e16 => ?_)
  refine g_newJ C r dL_law_17 (1) (by omega) (by omega) (by omega) (by omega) (fun q17 => ?_)
  refine g_swap (X := [(q0, .inr (5, [.ref ip, .ref op, .ref lb, .ref fa, .ref ra, .int rc, .int pr, .int fc])), (ip, .inr (3, [.ref ib, .int sz, .int pl])), (ib, aB E (1500) (fun _ => 0)), (op, .inr (4, [.ref ob, .int os])), (ob, aB E (256) (fun _ => 0)), (lb, aB E (24) (fun _ => 0)), (fa, aF E (60) (ga)), (ra, aI E (180) (fun _ => 0)), (q8, .inr (6, [.int 0, .ref mi, .int 0, .int 0, .int 0, .ref ml, .ref mt, .ref my, .ref mz, .int 0, .ref mr, .ref mn, .int 0, .ref mw, .int 0, .int 0])), (mi, aB E (1500) (fun _ => 0)), (ml, aB E (24) (fun _ => 0)), (mt, aI E (60) (fun _ => 0)), (my, aB E (114000) (fun _ => 0)), (mz, aI E (60) (fun _ => 0)), (mr, aI E (180) (fun _ => 0)), (mn, aI E (180) (fun _ => 0)), (mw, aB E (115000) (fun _ => 0))]) (Z := zz E fo fd R60) (Y := [(q17, aJ E (1) (fun _ => 0))]) ?_
  change G E g ([(q0, .inr (5, [.ref ip, .ref op, .ref lb, .ref fa, .ref ra, .int rc, .int pr, .int fc])), (ip, .inr (3, [.ref ib, .int sz, .int pl])), (ib, aB E (1500) (fun _ => 0)), (op, .inr (4, [.ref ob, .int os])), (ob, aB E (256) (fun _ => 0)), (lb, aB E (24) (fun _ => 0)), (fa, aF E (60) (ga)), (ra, aI E (180) (fun _ => 0)), (q8, .inr (6, [.int 0, .ref mi, .int 0, .int 0, .int 0, .ref ml, .ref mt, .ref my, .ref mz, .int 0, .ref mr, .ref mn, .int 0, .ref mw, .int 0, .int 0])), (mi, aB E (1500) (fun _ => 0)), (ml, aB E (24) (fun _ => 0)), (mt, aI E (60) (fun _ => 0)), (my, aB E (114000) (fun _ => 0)), (mz, aI E (60) (fun _ => 0)), (mr, aI E (180) (fun _ => 0)), (mn, aI E (180) (fun _ => 0)), (mw, aB E (115000) (fun _ => 0)), (q17, aJ E (1) (fun _ => 0))] ++ zz E fo fd R60) _ _ _ _ _
  refine g_astore_n C dL_law_19 (by rw [hN]; decide) (lv' := [(3, .ref q17), (2, .ref q8), (1, .ref q0), (0, .ref bb)]) rfl ?_
  refine g_iconst C dL_law_20 (by decide) (fun x20 e20 => ?_)
  refine g_istore C dL_law_21 (by rw [hN]; decide) (lv' := [(4, .int x20), (3, .ref q17), (2, .ref q8), (1, .ref q0), (0, .ref bb)]) rfl ?_
  refine g_lv [4, 3, 2, 1, 0] (lv' := [(0, .ref bb), (1, .ref q0), (2, .ref q8), (3, .ref q17), (4, .int x20)]) rfl ?_
  refine g_permZ [0, 1, 2, 3, 4, 5, 6, 7, 8, 9, 10, 11, 13, 12, 14, 15, 16, 17] rfl (ws' := [(q0, .inr (5, [.ref ip, .ref op, .ref lb, .ref fa, .ref ra, .int rc, .int pr, .int fc])), (ip, .inr (3, [.ref ib, .int sz, .int pl])), (ib, aB E (1500) (fun _ => 0)), (op, .inr (4, [.ref ob, .int os])), (ob, aB E (256) (fun _ => 0)), (lb, aB E (24) (fun _ => 0)), (fa, aF E (60) (ga)), (ra, aI E (180) (fun _ => 0)), (q8, .inr (6, [.int 0, .ref mi, .int 0, .int 0, .int 0, .ref ml, .ref mt, .ref my, .ref mz, .int 0, .ref mr, .ref mn, .int 0, .ref mw, .int 0, .int 0])), (mi, aB E (1500) (fun _ => 0)), (ml, aB E (24) (fun _ => 0)), (mt, aI E (60) (fun _ => 0)), (mz, aI E (60) (fun _ => 0)), (my, aB E (114000) (fun _ => 0)), (mr, aI E (180) (fun _ => 0)), (mn, aI E (180) (fun _ => 0)), (mw, aB E (115000) (fun _ => 0)), (q17, aJ E (1) (fun _ => 0))]) rfl rfl ?_
  exact law_loop C r hT hl hN hX hbl hbA hga hL hret _ 0 (Nat.lt_succ_self _) _ _ _ _ _ _ _ _ _ _ _ _ _ _ _ _ _ _ _ _ _ _ _ _ _ _ _ _ _ _ _ _ _ _ _ _ _ _ (by omega) (by omega) ⟨hsz, rfl, hpl, rfl, Nat.le_refl 0, Nat.le_refl 0, by decide, BF_0⟩ (IB.no hpr hfc hFG rfl (by decide)) (⟨hrc, rfl, by decide, RW_0 _ _, RW_0 _ _⟩ : IC 0 (fun _ => 0) _ _ _ _) (⟨hos, rfl, Bs_nil _ _, Bs_nil _ _, by decide, by decide, by decide, by decide⟩ : ID [] _ _ _ _ _) ⟨by omega, by omega⟩
