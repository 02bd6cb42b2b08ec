set_option maxHeartbeats 2000000 in
set_option maxRecDepth 10000 in
theorem c_X3_init (l : Launch) (E : GE) (x : Nat) (a1 a2 a3 : Int32)  : CtrJ (va_AO "ExchangeRecords$Field") l E yX3_init cX3_init 2 none 2 (127) (3345) [.ref x] [(x, .inr (5, [.null, .null, .null, .null, .null, .int a1, .int a2, .int a3]))] (fun v w => v = none ∧ ∃ (ip ib op ob lb fa ra : Nat) (sz pl os rc pr fc : Int32) (ga : Nat → Option Nat) (fo : Nat → Nat) (fd : Nat → FV), sz.toInt = 0 ∧ pl.toInt = 0 ∧ os.toInt = 0 ∧ rc.toInt = 0 ∧ pr.toInt = 0 ∧ fc.toInt = 0 ∧ (∀ j, j < 60 → ga j = some (fo j)) ∧ FG fd ∧ w = ([(x, .inr (5, [.ref ip, .ref op, .ref lb, .ref fa, .ref ra, .int rc, .int pr, .int fc])), (ip, .inr (3, [.ref ib, .int sz, .int pl])), (ib, aB E (1500) (fun _ => 0)), (op, .inr (4, [.ref ob, .int os])), (ob, aB E (256) (fun _ => 0)), (lb, aB E (24) (fun _ => 0)), (fa, aF E (60) (ga)), (ra, aI E (180) (fun _ => 0))] ++ zz E fo fd R60)) := by
  refine CtrJ.intro (by decide) (Nat.le_of_ble_eq_true rfl) (fun g hgl hN C r F hi hao => ?_)
  subst hgl
  change G E g [(x, .inr (5, [.null, .null, .null, .null, .null, .int a1, .int a2, .int a3]))] 0 0 0 [(0, .ref x)] []
  refine g_aload_n C dX3_init_0 0 rfl ?_
  refine g_objInit C r (by decide) kw1_20 dX3_init_1 (Nat.le_of_ble_eq_true rfl) ?_
  refine g_aload_n C dX3_init_4 0 rfl ?_
  refine g_new C r inG_X1 tyX1 tyX1_ok kw1_23 kw1_24 kw1_2 (ci := 3) rfl (fs := [.null, .int 0, .int 0]) (fun j hj => by rcases (show j = 0 ∨ j = 1 ∨ j = 2 by omega) with rfl | rfl | rfl <;> rfl) (by omega) (by omega) dX3_init_5 (fun q5 => ?_)
  change G E g [(x, .inr (5, [.null, .null, .null, .null, .null, .int a1, .int a2, .int a3])), (q5, .inr (3, [.null, .int 0, .int 0]))] _ _ _ _ _
  refine g_dup C dX3_init_8 rfl ?_
  refine g_callI C r mi_X3_9 dX3_init_9 (c_X1_init g.l E q5 0 0) (wr := [(x, .inr (5, [.null, .null, .null, .null, .null, .int a1, .int a2, .int a3]))]) (As := []) (rest := [.ref q5, .ref x]) (Spl.at [0] [1] rfl rfl rfl) rfl (Nat.le_of_ble_eq_true rfl) (by decide) (by omega) (by omega) (fun v w h => ?_)
  obtain ⟨rfl, ib, s9, p9, es9, ep9, rfl⟩ := h
  change G E g [(x, .inr (5, [.null, .null, .null, .null, .null, .int a1, .int a2, .int a3])), (q5, .inr (3, [.ref ib, .int s9, .int p9])), (ib, aB E (1500) (fun _ => 0))] _ _ _ _ [.ref q5, .ref x]
  refine gp_X3_10 C (hi rfl) 0 rfl (Nat.le_of_ble_eq_true rfl) rfl rfl dX3_init_12 ?_
  change G E g [(x, .inr (5, [.ref q5, .null, .null, .null, .null, .int a1, .int a2, .int a3])), (q5, .inr (3, [.ref ib, .int s9, .int p9])), (ib, aB E (1500) (fun _ => 0))] _ _ _ _ _
  refine g_aload_n C dX3_init_15 0 rfl ?_
  refine g_new C r inG_X2 tyX2 tyX2_ok kw1_40 kw1_41 kw1_3 (ci := 4) rfl (fs := [.null, .int 0]) (fun j hj => by rcases (show j = 0 ∨ j = 1 by omega) with rfl | rfl <;> rfl) (by omega) (by omega) dX3_init_16 (fun q16 => ?_)
  change G E g [(x, .inr (5, [.ref q5, .null, .null, .null, .null, .int a1, .int a2, .int a3])), (q5, .inr (3, [.ref ib, .int s9, .int p9])), (ib, aB E (1500) (fun _ => 0)), (q16, .inr (4, [.null, .int 0]))] _ _ _ _ _
  refine g_dup C dX3_init_19 rfl ?_
  refine g_callI C r mi_X3_18 dX3_init_20 (c_X2_init g.l E q16 0) (wr := [(x, .inr (5, [.ref q5, .null, .null, .null, .null, .int a1, .int a2, .int a3])), (q5, .inr (3, [.ref ib, .int s9, .int p9])), (ib, aB E (1500) (fun _ => 0))]) (As := []) (rest := [.ref q16, .ref x]) (Spl.at [0, 1, 2] [3] rfl rfl rfl) rfl (Nat.le_of_ble_eq_true rfl) (by decide) (by omega) (by omega) (fun v w h => ?_)
  obtain ⟨rfl, ob, s20, es20, rfl⟩ := h
  change G E g [(x, .inr (5, [.ref q5, .null, .null, .null, .null, .int a1, .int a2, .int a3])), (q5, .inr (3, [.ref ib, .int s9, .int p9])), (ib, aB E (1500) (fun _ => 0)), (q16, .inr (4, [.ref ob, .int s20])), (ob, aB E (256) (fun _ => 0))] _ _ _ _ [.ref q16, .ref x]
  refine gp_X3_19 C (hi rfl) 0 rfl (Nat.le_of_ble_eq_true rfl) rfl rfl dX3_init_23 ?_
  change G E g [(x, .inr (5, [.ref q5, .ref q16, .null, .null, .null, .int a1, .int a2, .int a3])), (q5, .inr (3, [.ref ib, .int s9, .int p9])), (ib, aB E (1500) (fun _ => 0)), (q16, .inr (4, [.ref ob, .int s20])), (ob, aB E (256) (fun _ => 0))] _ _ _ _ _
  refine g_aload_n C dX3_init_26 0 rfl ?_
  refine g_bipush C dX3_init_27 (by decide) (fun x27 e27 => ?_)
  refine g_newB C r dX3_init_29 (24) (by omega) (by omega) (by omega) (by omega) (fun q29 => ?_)
  change G E g [(x, .inr (5, [.ref q5, .ref q16, .null, .null, .null, .int a1, .int a2, .int a3])), (q5, .inr (3, [.ref ib, .int s9, .int p9])), (ib, aB E (1500) (fun _ => 0)), (q16, .inr (4, [.ref ob, .int s20])), (ob, aB E (256) (fun _ => 0)), (q29, aB E (24) (fun _ => 0))] _ _ _ _ _
  refine gp_X3_23 C (hi rfl) 0 rfl (Nat.le_of_ble_eq_true rfl) rfl rfl dX3_init_31 ?_
  change G E g [(x, .inr (5, [.ref q5, .ref q16, .ref q29, .null, .null, .int a1, .int a2, .int a3])), (q5, .inr (3, [.ref ib, .int s9, .int p9])), (ib, aB E (1500) (fun _ => 0)), (q16, .inr (4, [.ref ob, .int s20])), (ob, aB E (256) (fun _ => 0)), (q29, aB E (24) (fun _ => 0))] _ _ _ _ _
  refine g_aload_n C dX3_init_34 0 rfl ?_
  refine g_bipush C dX3_init_35 (by decide) (fun x35 e35 => ?_)
  refine g_newF C r kw1_53 hao (60) (by omega) (by omega) (by omega) (by omega) dX3_init_37 (fun q37 => ?_)
  change G E g [(x, .inr (5, [.ref q5, .ref q16, .ref q29, .null, .null, .int a1, .int a2, .int a3])), (q5, .inr (3, [.ref ib, .int s9, .int p9])), (ib, aB E (1500) (fun _ => 0)), (q16, .inr (4, [.ref ob, .int s20])), (ob, aB E (256) (fun _ => 0)), (q29, aB E (24) (fun _ => 0)), (q37, aF E (60) (fun _ => none))] _ _ _ _ _
  refine gp_X3_29 C (hi rfl) 0 rfl (Nat.le_of_ble_eq_true rfl) rfl rfl dX3_init_40 ?_
  change G E g [(x, .inr (5, [.ref q5, .ref q16, .ref q29, .ref q37, .null, .int a1, .int a2, .int a3])), (q5, .inr (3, [.ref ib, .int s9, .int p9])), (ib, aB E (1500) (fun _ => 0)), (q16, .inr (4, [.ref ob, .int s20])), (ob, aB E (256) (fun _ => 0)), (q29, aB E (24) (fun _ => 0)), (q37, aF E (60) (fun _ => none))] _ _ _ _ _
  refine g_pm (ws' := ([(x, .inr (5, [.ref q5, .ref q16, .ref q29, .ref q37, .null, .int a1, .int a2, .int a3])), (q5, .inr (3, [.ref ib, .int s9, .int p9])), (ib, aB E (1500) (fun _ => 0)), (q16, .inr (4, [.ref ob, .int s20])), (ob, aB E (256) (fun _ => 0)), (q29, aB E (24) (fun _ => 0)), (q37, aF E (60) (fun _ => none))] ++ zz E (fun _ => 0) (fun _ => (0, 0, 0, 0, 0, 0, 0, fun _ => 0)) (List.range 0))) (by rw [show zz E (fun _ => 0) (fun _ => (0, 0, 0, 0, 0, 0, 0, fun _ => 0)) (List.range 0) = [] from rfl, List.append_nil]) ?_
  refine g_iconst C dX3_init_43 (by decide) (fun x43 e43 => ?_)
  refine g_istore_n C dX3_init_44 (by rw [hN]; decide) (lv' := [(1, .int x43), (0, .ref x)]) rfl ?_
  have loop45 : ∀ (nn : Nat) (n1 : Int32) (ga : Nat → Option Nat) (fo : Nat → Nat) (fd : Nat → FV) (i : Nat) (cN : Nat) (sN : Nat) (hm : 60 - i < nn) (hi9 : i ≤ 60) (hp : n1.toInt = (i : Int)) (hga : ∀ j, j < i → ga j = some (fo j)) (hG : ∀ j, j < i → BF (fd j).2.2.2.2.2.2.2 ∧ 16 ≤ (fd j).2.2.2.2.2.2.1 ∧ (fd j).2.2.2.2.2.2.1 ≤ 4000) (hcN : cN = 6 + 2 * i) (hsN : sN = 1845 + 22 * i), G E g ([(x, .inr (5, [.ref q5, .ref q16, .ref q29, .ref q37, .null, .int a1, .int a2, .int a3])), (q5, .inr (3, [.ref ib, .int s9, .int p9])), (ib, aB E (1500) (fun _ => 0)), (q16, .inr (4, [.ref ob, .int s20])), (ob, aB E (256) (fun _ => 0)), (q29, aB E (24) (fun _ => 0)), (q37, aF E (60) (ga))] ++ zz E fo fd (List.range i)) cN sN 45 [(0, .ref x), (1, .int n1)] [] := by
    intro nn
    induction nn with
    | zero => intro n1 ga fo fd i cN sN hm hi9 hp hga hG hcN hsN; omega
    | succ nn ih45 =>
      intro n1 ga fo fd i cN sN hm hi9 hp hga hG hcN hsN
      refine g_iload_n C dX3_init_45 1 rfl ?_
      refine g_bipush C dX3_init_46 (by decide) (fun x46 e46 => ?_)
      refine g_icmp_ge C 70 dX3_init_48 (by decide) (fun c48 => ?_) (fun c48 => ?_)
      · obtain rfl : i = 60 := by omega
        refine g_aload_n C dX3_init_70 0 rfl ?_
        refine g_sipush C dX3_init_71 (by decide) (fun x71 e71 => ?_)
        refine g_newI C r dX3_init_74 (180) (by omega) (by omega) (by omega) (by omega) (fun q74 => ?_)
        refine g_swap (X := [(x, .inr (5, [.ref q5, .ref q16, .ref q29, .ref q37, .null, .int a1, .int a2, .int a3])), (q5, .inr (3, [.ref ib, .int s9, .int p9])), (ib, aB E (1500) (fun _ => 0)), (q16, .inr (4, [.ref ob, .int s20])), (ob, aB E (256) (fun _ => 0)), (q29, aB E (24) (fun _ => 0)), (q37, aF E (60) (ga))]) (Z := zz E fo fd R60) (Y := [(q74, aI E (180) (fun _ => 0))]) ?_
        change G E g ([(x, .inr (5, [.ref q5, .ref q16, .ref q29, .ref q37, .null, .int a1, .int a2, .int a3])), (q5, .inr (3, [.ref ib, .int s9, .int p9])), (ib, aB E (1500) (fun _ => 0)), (q16, .inr (4, [.ref ob, .int s20])), (ob, aB E (256) (fun _ => 0)), (q29, aB E (24) (fun _ => 0)), (q37, aF E (60) (ga)), (q74, aI E (180) (fun _ => 0))] ++ zz E fo fd R60) _ _ _ _ _
        refine gp_X3_34 C (hi rfl) 0 rfl (Nat.le_of_ble_eq_true rfl) rfl rfl dX3_init_76 ?_
        change G E g ([(x, .inr (5, [.ref q5, .ref q16, .ref q29, .ref q37, .ref q74, .int a1, .int a2, .int a3])), (q5, .inr (3, [.ref ib, .int s9, .int p9])), (ib, aB E (1500) (fun _ => 0)), (q16, .inr (4, [.ref ob, .int s20])), (ob, aB E (256) (fun _ => 0)), (q29, aB E (24) (fun _ => 0)), (q37, aF E (60) (ga)), (q74, aI E (180) (fun _ => 0))] ++ zz E fo fd R60) _ _ _ _ _
        refine g_aload_n C dX3_init_79 0 rfl ?_
        refine g_iconst C dX3_init_80 (by decide) (fun x80 e80 => ?_)
        refine gp_X3_38 C 0 rfl (Nat.le_of_ble_eq_true rfl) rfl rfl dX3_init_81 ?_
        change G E g ([(x, .inr (5, [.ref q5, .ref q16, .ref q29, .ref q37, .ref q74, .int x80, .int a2, .int a3])), (q5, .inr (3, [.ref ib, .int s9, .int p9])), (ib, aB E (1500) (fun _ => 0)), (q16, .inr (4, [.ref ob, .int s20])), (ob, aB E (256) (fun _ => 0)), (q29, aB E (24) (fun _ => 0)), (q37, aF E (60) (ga)), (q74, aI E (180) (fun _ => 0))] ++ zz E fo fd R60) _ _ _ _ _
        refine g_aload_n C dX3_init_84 0 rfl ?_
        refine g_iconst C dX3_init_85 (by decide) (fun x85 e85 => ?_)
        refine gp_X3_42 C 0 rfl (Nat.le_of_ble_eq_true rfl) (nz_b x85 (by omega)) (fz_b x85 (by omega)) dX3_init_86 ?_
        change G E g ([(x, .inr (5, [.ref q5, .ref q16, .ref q29, .ref q37, .ref q74, .int x80, .int x85, .int a3])), (q5, .inr (3, [.ref ib, .int s9, .int p9])), (ib, aB E (1500) (fun _ => 0)), (q16, .inr (4, [.ref ob, .int s20])), (ob, aB E (256) (fun _ => 0)), (q29, aB E (24) (fun _ => 0)), (q37, aF E (60) (ga)), (q74, aI E (180) (fun _ => 0))] ++ zz E fo fd R60) _ _ _ _ _
        refine g_aload_n C dX3_init_89 0 rfl ?_
        refine g_iconst C dX3_init_90 (by decide) (fun x90 e90 => ?_)
        refine gp_X3_46 C 0 rfl (Nat.le_of_ble_eq_true rfl) rfl rfl dX3_init_91 ?_
        change G E g ([(x, .inr (5, [.ref q5, .ref q16, .ref q29, .ref q37, .ref q74, .int x80, .int x85, .int x90])), (q5, .inr (3, [.ref ib, .int s9, .int p9])), (ib, aB E (1500) (fun _ => 0)), (q16, .inr (4, [.ref ob, .int s20])), (ob, aB E (256) (fun _ => 0)), (q29, aB E (24) (fun _ => 0)), (q37, aF E (60) (ga)), (q74, aI E (180) (fun _ => 0))] ++ zz E fo fd R60) _ _ _ _ _
        exact g_vret C F dX3_init_94 (by omega) (by omega) (by exact ⟨rfl, _, _, _, _, _, _, _, _, _, _, _, _, _, _, _, _, es9, ep9, es20, by omega, by omega, by omega, hga, hG, rfl⟩)
      · refine g_aload_n C dX3_init_51 0 rfl ?_
        refine gf_X3_29 C 0 rfl rfl dX3_init_52 ?_
        refine g_iload_n C dX3_init_55 1 rfl ?_
        refine g_new C r inG_X0 tyX0 tyX0_ok kw1_53 kw1_55 kw1_4 (ci := 2) rfl (fs := [.int 0, .int 0, .int 0, .null, .int 0, .int 0]) (fun j hj => by rcases (show j = 0 ∨ j = 1 ∨ j = 2 ∨ j = 3 ∨ j = 4 ∨ j = 5 by omega) with rfl | rfl | rfl | rfl | rfl | rfl <;> rfl) (by omega) (by omega) dX3_init_56 (fun q56 => ?_)
        refine g_swap (X := [(x, .inr (5, [.ref q5, .ref q16, .ref q29, .ref q37, .null, .int a1, .int a2, .int a3])), (q5, .inr (3, [.ref ib, .int s9, .int p9])), (ib, aB E (1500) (fun _ => 0)), (q16, .inr (4, [.ref ob, .int s20])), (ob, aB E (256) (fun _ => 0)), (q29, aB E (24) (fun _ => 0)), (q37, aF E (60) (ga))]) (Z := zz E fo fd (List.range i)) (Y := [(q56, .inr (2, [.int 0, .int 0, .int 0, .null, .int 0, .int 0]))]) ?_
        change G E g ([(x, .inr (5, [.ref q5, .ref q16, .ref q29, .ref q37, .null, .int a1, .int a2, .int a3])), (q5, .inr (3, [.ref ib, .int s9, .int p9])), (ib, aB E (1500) (fun _ => 0)), (q16, .inr (4, [.ref ob, .int s20])), (ob, aB E (256) (fun _ => 0)), (q29, aB E (24) (fun _ => 0)), (q37, aF E (60) (ga)), (q56, .inr (2, [.int 0, .int 0, .int 0, .null, .int 0, .int 0]))] ++ zz E fo fd (List.range i)) _ _ _ _ _
        refine g_dup C dX3_init_59 rfl ?_
        refine g_callI C r mi_X3_33 dX3_init_60 (c_X0_init g.l E q56 0 0 0 0 0) (wr := ([(x, .inr (5, [.ref q5, .ref q16, .ref q29, .ref q37, .null, .int a1, .int a2, .int a3])), (q5, .inr (3, [.ref ib, .int s9, .int p9])), (ib, aB E (1500) (fun _ => 0)), (q16, .inr (4, [.ref ob, .int s20])), (ob, aB E (256) (fun _ => 0)), (q29, aB E (24) (fun _ => 0)), (q37, aF E (60) (ga))] ++ zz E fo fd (List.range i))) (As := []) (rest := [.ref q56, .int n1, .ref q37]) (Spl.atZ [0, 1, 2, 3, 4, 5, 6] [7] rfl rfl rfl) rfl (Nat.le_of_ble_eq_true rfl) (by decide) (by omega) (by omega) (fun v w h => ?_)
        obtain ⟨rfl, bq, rfl⟩ := h
        refine g_tail ?_
        change G E g ([(x, .inr (5, [.ref q5, .ref q16, .ref q29, .ref q37, .null, .int a1, .int a2, .int a3])), (q5, .inr (3, [.ref ib, .int s9, .int p9])), (ib, aB E (1500) (fun _ => 0)), (q16, .inr (4, [.ref ob, .int s20])), (ob, aB E (256) (fun _ => 0)), (q29, aB E (24) (fun _ => 0)), (q37, aF E (60) (ga)), (q56, .inr (2, [.int 0, .int 0, .int 0, .ref bq, .int 0, .int 0])), (bq, aB E (16) (fun _ => 0))] ++ zz E fo fd (List.range i)) _ _ _ _ [.ref q56, .int n1, .ref q37]
        refine g_aastF C 6 7 rfl rfl (i) (by omega) (by omega) dX3_init_63 ?_
        change G E g ([(x, .inr (5, [.ref q5, .ref q16, .ref q29, .ref q37, .null, .int a1, .int a2, .int a3])), (q5, .inr (3, [.ref ib, .int s9, .int p9])), (ib, aB E (1500) (fun _ => 0)), (q16, .inr (4, [.ref ob, .int s20])), (ob, aB E (256) (fun _ => 0)), (q29, aB E (24) (fun _ => 0)), (q37, aF E (60) (va_up (ga) (i) (some q56))), (q56, .inr (2, [.int 0, .int 0, .int 0, .ref bq, .int 0, .int 0])), (bq, aB E (16) (fun _ => 0))] ++ zz E fo fd (List.range i)) _ _ _ _ _
        refine g_grow (X := [(x, .inr (5, [.ref q5, .ref q16, .ref q29, .ref q37, .null, .int a1, .int a2, .int a3])), (q5, .inr (3, [.ref ib, .int s9, .int p9])), (ib, aB E (1500) (fun _ => 0)), (q16, .inr (4, [.ref ob, .int s20])), (ob, aB E (256) (fun _ => 0)), (q29, aB E (24) (fun _ => 0)), (q37, aF E (60) (va_up (ga) (i) (some q56)))]) i q56 ((0 : Int32), (0 : Int32), (0 : Int32), (0 : Int32), (0 : Int32), bq, 16, (fun _ => (0 : Int32))) ?_
        change G E g ([(x, .inr (5, [.ref q5, .ref q16, .ref q29, .ref q37, .null, .int a1, .int a2, .int a3])), (q5, .inr (3, [.ref ib, .int s9, .int p9])), (ib, aB E (1500) (fun _ => 0)), (q16, .inr (4, [.ref ob, .int s20])), (ob, aB E (256) (fun _ => 0)), (q29, aB E (24) (fun _ => 0)), (q37, aF E (60) (va_up (ga) (i) (some q56)))] ++ zz E (va_up fo i q56) (va_up fd i ((0 : Int32), (0 : Int32), (0 : Int32), (0 : Int32), (0 : Int32), bq, 16, (fun _ => (0 : Int32)))) (List.range (i + 1))) _ _ _ _ _
        refine g_iinc C dX3_init_64 1 rfl (by rw [hN]; decide) (by decide) (by omega) (fun x64 e64 => ?_)
        refine g_lvE (lv' := [(1, .int x64), (0, .ref x)]) rfl ?_
        refine g_goto C 45 dX3_init_67 (by decide) ?_
        refine g_lv [1, 0] (lv' := [(0, .ref x), (1, .int x64)]) rfl ?_
        exact ih45 (x64) (va_up (ga) (i) (some q56)) (va_up fo i q56) (va_up fd i ((0 : Int32), (0 : Int32), (0 : Int32), (0 : Int32), (0 : Int32), bq, 16, (fun _ => (0 : Int32)))) (i + 1) (cN + 1 + 1) (sN + 6 + 16) (by omega) (by omega) (by omega) (by exact ga_add hga) (by exact FG_add hG ⟨BF_0, Nat.le_refl 16, (by decide : (16 : Nat) ≤ 4000)⟩) (by omega) (by omega)
  refine g_lv [1, 0] (lv' := [(0, .ref x), (1, .int x43)]) rfl ?_
  exact loop45 _ (x43) (fun _ => none) (fun _ => 0) (fun _ => (0, 0, 0, 0, 0, 0, 0, fun _ => 0)) (0) (6) (1845) (Nat.lt_succ_self _) (by omega) (by omega) (by intro j hj; omega) (by intro j hj; omega) (by omega) (by omega)
set_option maxHeartbeats 1000000 in
set_option maxRecDepth 10000 in
theorem c_X4_init (l : Launch) (E : GE) (m : Nat) (a0 a2 a3 a4 a9 a12 a14 a15 : Int32)  : Ctr l E yX4_init cX4_init 1 none 1 (8) (231004) [.ref m] [(m, .inr (6, [.int a0, .null, .int a2, .int a3, .int a4, .null, .null, .null, .null, .int a9, .null, .null, .int a12, .null, .int a14, .int a15]))] (fun v w => v = none ∧ ∃ (mi ml mt my mz mr mn mw : Nat), w = [(m, .inr (6, [.int a0, .ref mi, .int a2, .int a3, .int a4, .ref ml, .ref mt, .ref my, .ref mz, .int a9, .ref mr, .ref mn, .int a12, .ref mw, .int a14, .int a15])), (mi, aB E (1500) (fun _ => 0)), (ml, aB E (24) (fun _ => 0)), (mt, aI E (60) (fun _ => 0)), (my, aB E (114000) (fun _ => 0)), (mz, aI E (60) (fun _ => 0)), (mr, aI E (180) (fun _ => 0)), (mn, aI E (180) (fun _ => 0)), (mw, aB E (115000) (fun _ => 0))]) := by
  refine Ctr.intro (by decide) (Nat.le_of_ble_eq_true rfl) (fun g hgl hN C r F hi => ?_)
  subst hgl
  change G E g [(m, .inr (6, [.int a0, .null, .int a2, .int a3, .int a4, .null, .null, .null, .null, .int a9, .null, .null, .int a12, .null, .int a14, .int a15]))] 0 0 0 [(0, .ref m)] []
  refine g_aload_n C dX4_init_0 0 rfl ?_
  refine g_objInit C r (by decide) kw2_208 dX4_init_1 (Nat.le_of_ble_eq_true rfl) ?_
  refine g_aload_n C dX4_init_4 0 rfl ?_
  refine g_sipush C dX4_init_5 (by decide) (fun x5 e5 => ?_)
  refine g_newB C r dX4_init_8 (1500) (by omega) (by omega) (by omega) (by omega) (fun q8 => ?_)
  change G E g [(m, .inr (6, [.int a0, .null, .int a2, .int a3, .int a4, .null, .null, .null, .null, .int a9, .null, .null, .int a12, .null, .int a14, .int a15])), (q8, aB E (1500) (fun _ => 0))] _ _ _ _ _
  refine gp_X4_7 C (hi rfl) 0 rfl (Nat.le_of_ble_eq_true rfl) rfl rfl dX4_init_10 ?_
  change G E g [(m, .inr (6, [.int a0, .ref q8, .int a2, .int a3, .int a4, .null, .null, .null, .null, .int a9, .null, .null, .int a12, .null, .int a14, .int a15])), (q8, aB E (1500) (fun _ => 0))] _ _ _ _ _
  refine g_aload_n C dX4_init_13 0 rfl ?_
  refine g_bipush C dX4_init_14 (by decide) (fun x14 e14 => ?_)
  refine g_newB C r dX4_init_16 (24) (by omega) (by omega) (by omega) (by omega) (fun q16 => ?_)
  change G E g [(m, .inr (6, [.int a0, .ref q8, .int a2, .int a3, .int a4, .null, .null, .null, .null, .int a9, .null, .null, .int a12, .null, .int a14, .int a15])), (q8, aB E (1500) (fun _ => 0)), (q16, aB E (24) (fun _ => 0))] _ _ _ _ _
  refine gp_X4_13 C (hi rfl) 0 rfl (Nat.le_of_ble_eq_true rfl) rfl rfl dX4_init_18 ?_
  change G E g [(m, .inr (6, [.int a0, .ref q8, .int a2, .int a3, .int a4, .ref q16, .null, .null, .null, .int a9, .null, .null, .int a12, .null, .int a14, .int a15])), (q8, aB E (1500) (fun _ => 0)), (q16, aB E (24) (fun _ => 0))] _ _ _ _ _
  refine g_aload_n C dX4_init_21 0 rfl ?_
  refine g_bipush C dX4_init_22 (by decide) (fun x22 e22 => ?_)
  refine g_newI C r dX4_init_24 (60) (by omega) (by omega) (by omega) (by omega) (fun q24 => ?_)
  change G E g [(m, .inr (6, [.int a0, .ref q8, .int a2, .int a3, .int a4, .ref q16, .null, .null, .null, .int a9, .null, .null, .int a12, .null, .int a14, .int a15])), (q8, aB E (1500) (fun _ => 0)), (q16, aB E (24) (fun _ => 0)), (q24, aI E (60) (fun _ => 0))] _ _ _ _ _
  refine gp_X4_16 C (hi rfl) 0 rfl (Nat.le_of_ble_eq_true rfl) rfl rfl dX4_init_26 ?_
  change G E g [(m, .inr (6, [.int a0, .ref q8, .int a2, .int a3, .int a4, .ref q16, .ref q24, .null, .null, .int a9, .null, .null, .int a12, .null, .int a14, .int a15])), (q8, aB E (1500) (fun _ => 0)), (q16, aB E (24) (fun _ => 0)), (q24, aI E (60) (fun _ => 0))] _ _ _ _ _
  refine g_aload_n C dX4_init_29 0 rfl ?_
  refine g_ldc C kw2_209 (n := 114000) (by decide) dX4_init_30 (fun x30 e30 => ?_)
  refine g_newB C r dX4_init_32 (114000) (by omega) (by omega) (by omega) (by omega) (fun q32 => ?_)
  change G E g [(m, .inr (6, [.int a0, .ref q8, .int a2, .int a3, .int a4, .ref q16, .ref q24, .null, .null, .int a9, .null, .null, .int a12, .null, .int a14, .int a15])), (q8, aB E (1500) (fun _ => 0)), (q16, aB E (24) (fun _ => 0)), (q24, aI E (60) (fun _ => 0)), (q32, aB E (114000) (fun _ => 0))] _ _ _ _ _
  refine gp_X4_21 C (hi rfl) 0 rfl (Nat.le_of_ble_eq_true rfl) rfl rfl dX4_init_34 ?_
  change G E g [(m, .inr (6, [.int a0, .ref q8, .int a2, .int a3, .int a4, .ref q16, .ref q24, .ref q32, .null, .int a9, .null, .null, .int a12, .null, .int a14, .int a15])), (q8, aB E (1500) (fun _ => 0)), (q16, aB E (24) (fun _ => 0)), (q24, aI E (60) (fun _ => 0)), (q32, aB E (114000) (fun _ => 0))] _ _ _ _ _
  refine g_aload_n C dX4_init_37 0 rfl ?_
  refine g_bipush C dX4_init_38 (by decide) (fun x38 e38 => ?_)
  refine g_newI C r dX4_init_40 (60) (by omega) (by omega) (by omega) (by omega) (fun q40 => ?_)
  change G E g [(m, .inr (6, [.int a0, .ref q8, .int a2, .int a3, .int a4, .ref q16, .ref q24, .ref q32, .null, .int a9, .null, .null, .int a12, .null, .int a14, .int a15])), (q8, aB E (1500) (fun _ => 0)), (q16, aB E (24) (fun _ => 0)), (q24, aI E (60) (fun _ => 0)), (q32, aB E (114000) (fun _ => 0)), (q40, aI E (60) (fun _ => 0))] _ _ _ _ _
  refine gp_X4_24 C (hi rfl) 0 rfl (Nat.le_of_ble_eq_true rfl) rfl rfl dX4_init_42 ?_
  change G E g [(m, .inr (6, [.int a0, .ref q8, .int a2, .int a3, .int a4, .ref q16, .ref q24, .ref q32, .ref q40, .int a9, .null, .null, .int a12, .null, .int a14, .int a15])), (q8, aB E (1500) (fun _ => 0)), (q16, aB E (24) (fun _ => 0)), (q24, aI E (60) (fun _ => 0)), (q32, aB E (114000) (fun _ => 0)), (q40, aI E (60) (fun _ => 0))] _ _ _ _ _
  refine g_aload_n C dX4_init_45 0 rfl ?_
  refine g_sipush C dX4_init_46 (by decide) (fun x46 e46 => ?_)
  refine g_newI C r dX4_init_49 (180) (by omega) (by omega) (by omega) (by omega) (fun q49 => ?_)
  change G E g [(m, .inr (6, [.int a0, .ref q8, .int a2, .int a3, .int a4, .ref q16, .ref q24, .ref q32, .ref q40, .int a9, .null, .null, .int a12, .null, .int a14, .int a15])), (q8, aB E (1500) (fun _ => 0)), (q16, aB E (24) (fun _ => 0)), (q24, aI E (60) (fun _ => 0)), (q32, aB E (114000) (fun _ => 0)), (q40, aI E (60) (fun _ => 0)), (q49, aI E (180) (fun _ => 0))] _ _ _ _ _
  refine gp_X4_27 C (hi rfl) 0 rfl (Nat.le_of_ble_eq_true rfl) rfl rfl dX4_init_51 ?_
  change G E g [(m, .inr (6, [.int a0, .ref q8, .int a2, .int a3, .int a4, .ref q16, .ref q24, .ref q32, .ref q40, .int a9, .ref q49, .null, .int a12, .null, .int a14, .int a15])), (q8, aB E (1500) (fun _ => 0)), (q16, aB E (24) (fun _ => 0)), (q24, aI E (60) (fun _ => 0)), (q32, aB E (114000) (fun _ => 0)), (q40, aI E (60) (fun _ => 0)), (q49, aI E (180) (fun _ => 0))] _ _ _ _ _
  refine g_aload_n C dX4_init_54 0 rfl ?_
  refine g_sipush C dX4_init_55 (by decide) (fun x55 e55 => ?_)
  refine g_newI C r dX4_init_58 (180) (by omega) (by omega) (by omega) (by omega) (fun q58 => ?_)
  change G E g [(m, .inr (6, [.int a0, .ref q8, .int a2, .int a3, .int a4, .ref q16, .ref q24, .ref q32, .ref q40, .int a9, .ref q49, .null, .int a12, .null, .int a14, .int a15])), (q8, aB E (1500) (fun _ => 0)), (q16, aB E (24) (fun _ => 0)), (q24, aI E (60) (fun _ => 0)), (q32, aB E (114000) (fun _ => 0)), (q40, aI E (60) (fun _ => 0)), (q49, aI E (180) (fun _ => 0)), (q58, aI E (180) (fun _ => 0))] _ _ _ _ _
  refine gp_X4_30 C (hi rfl) 0 rfl (Nat.le_of_ble_eq_true rfl) rfl rfl dX4_init_60 ?_
  change G E g [(m, .inr (6, [.int a0, .ref q8, .int a2, .int a3, .int a4, .ref q16, .ref q24, .ref q32, .ref q40, .int a9, .ref q49, .ref q58, .int a12, .null, .int a14, .int a15])), (q8, aB E (1500) (fun _ => 0)), (q16, aB E (24) (fun _ => 0)), (q24, aI E (60) (fun _ => 0)), (q32, aB E (114000) (fun _ => 0)), (q40, aI E (60) (fun _ => 0)), (q49, aI E (180) (fun _ => 0)), (q58, aI E (180) (fun _ => 0))] _ _ _ _ _
  refine g_aload_n C dX4_init_63 0 rfl ?_
  refine g_ldc C kw2_210 (n := 115000) (by decide) dX4_init_64 (fun x64 e64 => ?_)
  refine g_newB C r dX4_init_66 (115000) (by omega) (by omega) (by omega) (by omega) (fun q66 => ?_)
  change G E g [(m, .inr (6, [.int a0, .ref q8, .int a2, .int a3, .int a4, .ref q16, .ref q24, .ref q32, .ref q40, .int a9, .ref q49, .ref q58, .int a12, .null, .int a14, .int a15])), (q8, aB E (1500) (fun _ => 0)), (q16, aB E (24) (fun _ => 0)), (q24, aI E (60) (fun _ => 0)), (q32, aB E (114000) (fun _ => 0)), (q40, aI E (60) (fun _ => 0)), (q49, aI E (180) (fun _ => 0)), (q58, aI E (180) (fun _ => 0)), (q66, aB E (115000) (fun _ => 0))] _ _ _ _ _
  refine gp_X4_34 C (hi rfl) 0 rfl (Nat.le_of_ble_eq_true rfl) rfl rfl dX4_init_68 ?_
  change G E g [(m, .inr (6, [.int a0, .ref q8, .int a2, .int a3, .int a4, .ref q16, .ref q24, .ref q32, .ref q40, .int a9, .ref q49, .ref q58, .int a12, .ref q66, .int a14, .int a15])), (q8, aB E (1500) (fun _ => 0)), (q16, aB E (24) (fun _ => 0)), (q24, aI E (60) (fun _ => 0)), (q32, aB E (114000) (fun _ => 0)), (q40, aI E (60) (fun _ => 0)), (q49, aI E (180) (fun _ => 0)), (q58, aI E (180) (fun _ => 0)), (q66, aB E (115000) (fun _ => 0))] _ _ _ _ _
  exact g_vret C F dX4_init_71 (by omega) (by omega) (by exact ⟨rfl, _, _, _, _, _, _, _, _, rfl⟩)
