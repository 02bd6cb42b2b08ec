set_option maxHeartbeats 200000 in
set_option maxRecDepth 10000 in
theorem c_X3_read (l : Launch) (E : GE) (x ip ib : Nat) (f : Nat → Int32) (sz pl : Int32) (S P : Nat) (lb fa ra : Nat) (ga : Nat → Option Nat) (fo : Nat → Nat) (fd : Nat → FV) (lf rf : Nat → Int32) (rc pr fc : Int32) (z1 : Value) (hS : sz.toInt = (S : Int)) (hP : pl.toInt = (P : Int)) (hPS : P ≤ S) (hSm : S ≤ 1500) (hBF : BF f) (hga : ∀ j, j < 60 → ga j = some (fo j)) (hFG : FG fd) : Ctr l E yX3_read cX3_read 3 (some .int) 7 (60 * (rdP (lk f P) S P - P)) (240 * (rdP (lk f P) S P - P)) [.ref x] ([(x, .inr (5, [.ref ip, z1, .ref lb, .ref fa, .ref ra, .int rc, .int pr, .int fc])), (ip, .inr (3, [.ref ib, .int sz, .int pl])), (ib, aB E (1500) (f)), (lb, aB E (24) (lf)), (fa, aF E (60) (ga)), (ra, aI E (180) (rf))] ++ zz E fo fd R60) (fun v w => ∃ (r0 pl2 rc2 pr2 fc2 : Int32) (lf2 rf2 : Nat → Int32) (fd2 : Nat → FV), v = some (.int r0) ∧ r0.toInt = rdR (lk f P) S P ∧ pl2.toInt = (rdP (lk f P) S P : Int) ∧ ((rdK (lk f P) S P = 0 ∧ pr2 = pr ∧ fc2 = fc ∧ rc2 = rc ∧ lf2 = lf ∧ rf2 = rf ∧ fd2 = fd) ∨ (rdK (lk f P) S P = 1 ∧ pr2.toInt = 0 ∧ fc2.toInt = 0 ∧ rc2 = rc ∧ lf2 = lf ∧ rf2 = rf ∧ fd2 = fd) ∨ (rdK (lk f P) S P = 2 ∧ pr2.toInt = 1 ∧ fc2.toInt = (rCnt (lk f P) : Int) ∧ rc2.toInt = (rCnt (lk f P) : Int) ∧ (∀ j, j < 24 → lf2 j = f (P + j)) ∧ XF fd2 (rdF (lk f P) (rCnt (lk f P))) ∧ FG fd2 ∧ RW (lk f P) rf2 (rCnt (lk f P)))) ∧ w = ([(x, .inr (5, [.ref ip, z1, .ref lb, .ref fa, .ref ra, .int rc2, .int pr2, .int fc2])), (ip, .inr (3, [.ref ib, .int sz, .int pl2])), (ib, aB E (1500) (f)), (lb, aB E (24) (lf2)), (fa, aF E (60) (ga)), (ra, aI E (180) (rf2))] ++ zz E fo fd2 R60)) := by
  refine Ctr.intro (by decide) (Nat.le_of_ble_eq_true rfl) (fun g hgl hN C r F hi => ?_)
  subst hgl
  have hb8 := lk_lt f P
  change G E g ([(x, .inr (5, [.ref ip, z1, .ref lb, .ref fa, .ref ra, .int rc, .int pr, .int fc])), (ip, .inr (3, [.ref ib, .int sz, .int pl])), (ib, aB E (1500) (f)), (lb, aB E (24) (lf)), (fa, aF E (60) (ga)), (ra, aI E (180) (rf))] ++ zz E fo fd R60) 0 0 0 [(0, .ref x)] []
  refine g_aload_n C dX3_read_0 0 rfl ?_
  refine gf_X3_10 C 0 rfl rfl dX3_read_1 ?_
  refine g_callV C r mv_X3_53 dX3_read_4 (c_X1_left g.l E ip ib f sz pl S P hS hP hPS hSm) (wr := ([(x, .inr (5, [.ref ip, z1, .ref lb, .ref fa, .ref ra, .int rc, .int pr, .int fc])), (lb, aB E (24) (lf)), (fa, aF E (60) (ga)), (ra, aI E (180) (rf))] ++ zz E fo fd R60)) (As := []) (rest := []) (Spl.atZ [0, 3, 4, 5] [1, 2] rfl rfl rfl) 0 rfl rfl rfl rfl (Nat.le_of_ble_eq_true rfl) (by decide) (by omega) (by omega) (fun v w h => ?_)
  obtain ⟨x4, rfl, e4, rfl⟩ := h
  refine g_tail ?_
  change G E g ([(x, .inr (5, [.ref ip, z1, .ref lb, .ref fa, .ref ra, .int rc, .int pr, .int fc])), (lb, aB E (24) (lf)), (fa, aF E (60) (ga)), (ra, aI E (180) (rf)), (ip, .inr (3, [.ref ib, .int sz, .int pl])), (ib, aB E (1500) (f))] ++ zz E fo fd R60) _ _ _ _ [.int x4]
  refine g_bipush C dX3_read_7 (by decide) (fun x7 e7 => ?_)
  refine g_icmp_ge C 14 dX3_read_9 (by decide) (fun c9 => ?_) (fun c9 => ?_)
  · refine g_aload_n C dX3_read_14 0 rfl ?_
    refine gf_X3_10 C 0 rfl rfl dX3_read_15 ?_
    refine g_callV C r mv_X3_57 dX3_read_18 (c_X1_wrongInTotal g.l E ip ib f sz pl S P hS hP hPS hSm (by omega)) (wr := ([(x, .inr (5, [.ref ip, z1, .ref lb, .ref fa, .ref ra, .int rc, .int pr, .int fc])), (lb, aB E (24) (lf)), (fa, aF E (60) (ga)), (ra, aI E (180) (rf))] ++ zz E fo fd R60)) (As := []) (rest := []) (Spl.atZ [0, 1, 2, 3] [4, 5] rfl rfl rfl) 0 rfl rfl rfl rfl (Nat.le_of_ble_eq_true rfl) (by decide) (by omega) (by omega) (fun v w h => ?_)
    obtain ⟨x18, rfl, e18, rfl⟩ := h
    refine g_tail ?_
    change G E g ([(x, .inr (5, [.ref ip, z1, .ref lb, .ref fa, .ref ra, .int rc, .int pr, .int fc])), (lb, aB E (24) (lf)), (fa, aF E (60) (ga)), (ra, aI E (180) (rf)), (ip, .inr (3, [.ref ib, .int sz, .int pl])), (ib, aB E (1500) (f))] ++ zz E fo fd R60) _ _ _ _ [.int x18]
    have hwr := wTot_rng (lk f P)
    refine g_istore_n C dX3_read_21 (by rw [hN]; decide) (lv' := [(1, .int x18), (0, .ref x)]) rfl ?_
    refine g_iload_n C dX3_read_22 0 rfl ?_
    refine g_iconst C dX3_read_23 (by decide) (fun x23 e23 => ?_)
    refine g_icmp_eq C 40 dX3_read_24 (by decide) (fun c24 => ?_) (fun c24 => ?_)
    · obtain ⟨hnd, hn1, hn2⟩ := wTot_ok (b := lk f P) (by omega)
      have hA : (rdA (lk f P) : Int) = numI (lk f P) 0 5 := by unfold rdA; omega
      refine g_aload_n C dX3_read_40 1 rfl ?_
      refine gf_X3_10 C 0 rfl rfl dX3_read_41 ?_
      refine g_iconst C dX3_read_44 (by decide) (fun x44 e44 => ?_)
      refine g_iconst C dX3_read_45 (by decide) (fun x45 e45 => ?_)
      refine g_callV C r mv_X3_64 dX3_read_46 (c_X1_number g.l E ip ib f sz pl S P x44 x45 (0) 5 hS hP hPS hSm (by omega) (by omega) (by decide) (by omega)) (wr := ([(x, .inr (5, [.ref ip, z1, .ref lb, .ref fa, .ref ra, .int rc, .int pr, .int fc])), (lb, aB E (24) (lf)), (fa, aF E (60) (ga)), (ra, aI E (180) (rf))] ++ zz E fo fd R60)) (As := [.int x44, .int x45]) (rest := []) (Spl.atZ [0, 1, 2, 3] [4, 5] rfl rfl rfl) 0 rfl rfl rfl rfl (Nat.le_of_ble_eq_true rfl) (by decide) (by omega) (by omega) (fun v w h => ?_)
      obtain ⟨x46, rfl, e46, rfl⟩ := h
      refine g_tail ?_
      change G E g ([(x, .inr (5, [.ref ip, z1, .ref lb, .ref fa, .ref ra, .int rc, .int pr, .int fc])), (lb, aB E (24) (lf)), (fa, aF E (60) (ga)), (ra, aI E (180) (rf)), (ip, .inr (3, [.ref ib, .int sz, .int pl])), (ib, aB E (1500) (f))] ++ zz E fo fd R60) _ _ _ _ [.int x46]
      refine g_istore_n C dX3_read_49 (by rw [hN]; decide) (lv' := [(2, .int x46), (1, .int x18), (0, .ref x)]) rfl ?_
      refine g_aload_n C dX3_read_50 2 rfl ?_
      refine gf_X3_10 C 0 rfl rfl dX3_read_51 ?_
      refine g_callV C r mv_X3_53 dX3_read_54 (c_X1_left g.l E ip ib f sz pl S P hS hP hPS hSm) (wr := ([(x, .inr (5, [.ref ip, z1, .ref lb, .ref fa, .ref ra, .int rc, .int pr, .int fc])), (lb, aB E (24) (lf)), (fa, aF E (60) (ga)), (ra, aI E (180) (rf))] ++ zz E fo fd R60)) (As := []) (rest := []) (Spl.atZ [0, 1, 2, 3] [4, 5] rfl rfl rfl) 0 rfl rfl rfl rfl (Nat.le_of_ble_eq_true rfl) (by decide) (by omega) (by omega) (fun v w h => ?_)
      obtain ⟨x54, rfl, e54, rfl⟩ := h
      refine g_tail ?_
      change G E g ([(x, .inr (5, [.ref ip, z1, .ref lb, .ref fa, .ref ra, .int rc, .int pr, .int fc])), (lb, aB E (24) (lf)), (fa, aF E (60) (ga)), (ra, aI E (180) (rf)), (ip, .inr (3, [.ref ib, .int sz, .int pl])), (ib, aB E (1500) (f))] ++ zz E fo fd R60) _ _ _ _ [.int x54]
      refine g_iload_n C dX3_read_57 0 rfl ?_
      refine g_icmp_ge C 63 dX3_read_58 (by decide) (fun c58 => ?_) (fun c58 => ?_)
      · refine g_aload_n C dX3_read_63 2 rfl ?_
        refine gf_X3_10 C 0 rfl rfl dX3_read_64 ?_
        refine g_iload_n C dX3_read_67 0 rfl ?_
        refine g_callV C r mv_X3_67 dX3_read_68 (c_X1_wrongInRecord g.l E ip ib f sz pl S P x46 (rdA (lk f P)) hS hP hPS hSm (by omega) (by omega) (by omega)) (wr := ([(x, .inr (5, [.ref ip, z1, .ref lb, .ref fa, .ref ra, .int rc, .int pr, .int fc])), (lb, aB E (24) (lf)), (fa, aF E (60) (ga)), (ra, aI E (180) (rf))] ++ zz E fo fd R60)) (As := [.int x46]) (rest := []) (Spl.atZ [0, 1, 2, 3] [4, 5] rfl rfl rfl) 0 rfl rfl rfl rfl (Nat.le_of_ble_eq_true rfl) (by decide) (by omega) (by omega) (fun v w h => ?_)
        obtain ⟨x68, rfl, e68, rfl⟩ := h
        refine g_tail ?_
        change G E g ([(x, .inr (5, [.ref ip, z1, .ref lb, .ref fa, .ref ra, .int rc, .int pr, .int fc])), (lb, aB E (24) (lf)), (fa, aF E (60) (ga)), (ra, aI E (180) (rf)), (ip, .inr (3, [.ref ib, .int sz, .int pl])), (ib, aB E (1500) (f))] ++ zz E fo fd R60) _ _ _ _ [.int x68]
        have hrr := fRow_rng_rec hb8 (rdA (lk f P)) (by omega)
        refine g_istore_n C dX3_read_71 (by rw [hN]; decide) (lv' := [(1, .int x68), (2, .int x46), (0, .ref x)]) rfl ?_
        refine g_iload_n C dX3_read_72 0 rfl ?_
        refine g_iconst C dX3_read_73 (by decide) (fun x73 e73 => ?_)
        refine g_icmp_eq C 101 dX3_read_74 (by decide) (fun c74 => ?_) (fun c74 => ?_)
        · obtain ⟨h1, h2, h3⟩ := rd_4 (b := lk f P) (S := S) (P := P) (by omega) (by omega) (by omega) (by omega)
          refine g_aload_n C dX3_read_101 2 rfl ?_
          refine g_callV C r mv_X3_71 dX3_read_102 (c_X3_takeRecord g.l E x ip ib f sz pl S P lb fa ra ga fo fd lf rf rc pr fc (rdA (lk f P)) (z1) hS hP hPS hSm (by omega) (by omega) (by omega) hBF hga hFG) (wr := []) (As := []) (rest := []) (Spl.atP [] [0, 4, 5, 1, 2, 3] rfl rfl rfl) 0 rfl rfl rfl rfl (Nat.le_of_ble_eq_true rfl) (by decide) (by omega) (by omega) (fun v w h => ?_)
          obtain ⟨rfl, rcK, prK, fcK, lfK, rfK, fdK, k1, k2, k3, k4, k5, k6, k7, rfl⟩ := h
          change G E g ([(x, .inr (5, [.ref ip, z1, .ref lb, .ref fa, .ref ra, .int rcK, .int prK, .int fcK])), (ip, .inr (3, [.ref ib, .int sz, .int pl])), (ib, aB E (1500) (f)), (lb, aB E (24) (lfK)), (fa, aF E (60) (ga)), (ra, aI E (180) (rfK))] ++ zz E fo fdK R60) _ _ _ _ []
          refine g_aload_n C dX3_read_105 2 rfl ?_
          refine gf_X3_10 C 0 rfl rfl dX3_read_106 ?_
          refine g_iload_n C dX3_read_109 1 rfl ?_
          refine g_callV C r mv_X3_74 dX3_read_110 (c_X1_skip g.l E ip ib f sz pl S P x46 (rdA (lk f P)) hS hP hPS hSm (by omega) (by omega)) (wr := ([(x, .inr (5, [.ref ip, z1, .ref lb, .ref fa, .ref ra, .int rcK, .int prK, .int fcK])), (lb, aB E (24) (lfK)), (fa, aF E (60) (ga)), (ra, aI E (180) (rfK))] ++ zz E fo fdK R60)) (As := [.int x46]) (rest := []) (Spl.atZ [0, 3, 4, 5] [1, 2] rfl rfl rfl) 0 rfl rfl rfl rfl (Nat.le_of_ble_eq_true rfl) (by decide) (by omega) (by omega) (fun v w h => ?_)
          obtain ⟨rfl, p110, ep110, rfl⟩ := h
          refine g_tail ?_
          change G E g ([(x, .inr (5, [.ref ip, z1, .ref lb, .ref fa, .ref ra, .int rcK, .int prK, .int fcK])), (lb, aB E (24) (lfK)), (fa, aF E (60) (ga)), (ra, aI E (180) (rfK)), (ip, .inr (3, [.ref ib, .int sz, .int p110])), (ib, aB E (1500) (f))] ++ zz E fo fdK R60) _ _ _ _ []
          refine g_iconst C dX3_read_113 (by decide) (fun x113 e113 => ?_)
          refine g_permZ [0, 4, 5, 1, 2, 3] rfl (ws' := [(x, .inr (5, [.ref ip, z1, .ref lb, .ref fa, .ref ra, .int rcK, .int prK, .int fcK])), (ip, .inr (3, [.ref ib, .int sz, .int p110])), (ib, aB E (1500) (f)), (lb, aB E (24) (lfK)), (fa, aF E (60) (ga)), (ra, aI E (180) (rfK))]) rfl rfl ?_
          exact g_iret C F dX3_read_114 rfl rfl (by omega) (by omega) (by exact ⟨_, _, _, _, _, _, _, _, rfl, by omega, by omega, Or.inr (Or.inr ⟨h1, k2, k3, k1, k4, k5, k6, k7⟩), rfl⟩)
        · have J97 : ∀ (z9 : Int32) (hz9 : z9.toInt = ((if wRec (lk f P) (rdA (lk f P)) = (rdA (lk f P) : Int) - 1 then S - P else rdA (lk f P) : Nat) : Int) ∧ (if wRec (lk f P) (rdA (lk f P)) = (rdA (lk f P) : Int) - 1 then S - P else rdA (lk f P)) ≤ S - P), G E g ([(x, .inr (5, [.ref ip, z1, .ref lb, .ref fa, .ref ra, .int rc, .int pr, .int fc])), (ip, .inr (3, [.ref ib, .int sz, .int pl])), (ib, aB E (1500) (f)), (lb, aB E (24) (lf)), (fa, aF E (60) (ga)), (ra, aI E (180) (rf))] ++ zz E fo fd R60) 0 0 97 [(0, .ref x), (1, .int x68), (2, .int x46)] [.int z9, .int x68, .ref x] := by
            intro z9 hz9
            refine g_callV C r mv_X3_60 dX3_read_97 (c_X3_refuse g.l E x ip ib f sz pl S P pr fc x68 z9 ((if wRec (lk f P) (rdA (lk f P)) = (rdA (lk f P) : Int) - 1 then S - P else rdA (lk f P))) (z1) (.ref lb) (.ref fa) (.ref ra) (.int rc) hS hP hPS hSm hz9.1 hz9.2 (by omega)) (wr := ([(lb, aB E (24) (lf)), (fa, aF E (60) (ga)), (ra, aI E (180) (rf))] ++ zz E fo fd R60)) (As := [.int x68, .int z9]) (rest := []) (Spl.atZ [3, 4, 5] [0, 1, 2] rfl rfl rfl) 0 rfl rfl rfl rfl (Nat.le_of_ble_eq_true rfl) (by decide) (by omega) (by omega) (fun v w h => ?_)
            obtain ⟨xr, pl9, pr9, fc9, rfl, er, ep, epr, efc, rfl⟩ := h
            refine g_tail ?_
            change G E g ([(lb, aB E (24) (lf)), (fa, aF E (60) (ga)), (ra, aI E (180) (rf)), (x, .inr (5, [.ref ip, z1, .ref lb, .ref fa, .ref ra, .int rc, .int pr9, .int fc9])), (ip, .inr (3, [.ref ib, .int sz, .int pl9])), (ib, aB E (1500) (f))] ++ zz E fo fd R60) _ _ _ _ [.int xr]
            refine g_permZ [3, 4, 5, 0, 1, 2] rfl (ws' := [(x, .inr (5, [.ref ip, z1, .ref lb, .ref fa, .ref ra, .int rc, .int pr9, .int fc9])), (ip, .inr (3, [.ref ib, .int sz, .int pl9])), (ib, aB E (1500) (f)), (lb, aB E (24) (lf)), (fa, aF E (60) (ga)), (ra, aI E (180) (rf))]) rfl rfl ?_
            exact g_iret C F dX3_read_100 rfl rfl (by omega) (by omega) (by obtain ⟨h1, h2, h3⟩ := rd_3 (b := lk f P) (S := S) (P := P) (by omega) (by omega) (by omega) (by omega); exact ⟨_, _, _, _, _, _, _, _, rfl, by omega, by rw [h3, ep]; split <;> omega, Or.inr (Or.inl ⟨h1, epr, efc, rfl, rfl, rfl, rfl⟩), rfl⟩)
          refine g_aload_n C dX3_read_77 2 rfl ?_
          refine g_iload_n C dX3_read_78 0 rfl ?_
          refine g_iload_n C dX3_read_79 0 rfl ?_
          refine g_iload_n C dX3_read_80 1 rfl ?_
          refine g_iconst C dX3_read_81 (by decide) (fun x81 e81 => ?_)
          refine g_isub C dX3_read_82 (by omega) (fun x82 e82 => ?_)
          refine g_icmp_ne C 96 dX3_read_83 (by decide) (fun c83 => ?_) (fun c83 => ?_)
          · refine g_iload_n C dX3_read_96 1 rfl ?_
            refine g_lv [2, 0, 1] (lv' := [(0, .ref x), (1, .int x68), (2, .int x46)]) rfl ?_
            refine g_permZ [0, 4, 5, 1, 2, 3] rfl (ws' := [(x, .inr (5, [.ref ip, z1, .ref lb, .ref fa, .ref ra, .int rc, .int pr, .int fc])), (ip, .inr (3, [.ref ib, .int sz, .int pl])), (ib, aB E (1500) (f)), (lb, aB E (24) (lf)), (fa, aF E (60) (ga)), (ra, aI E (180) (rf))]) rfl rfl ?_
            exact J97 (x46) (by rw [if_neg (by omega)]; omega)
          · refine g_aload_n C dX3_read_86 2 rfl ?_
            refine gf_X3_10 C 0 rfl rfl dX3_read_87 ?_
            refine g_callV C r mv_X3_53 dX3_read_90 (c_X1_left g.l E ip ib f sz pl S P hS hP hPS hSm) (wr := ([(x, .inr (5, [.ref ip, z1, .ref lb, .ref fa, .ref ra, .int rc, .int pr, .int fc])), (lb, aB E (24) (lf)), (fa, aF E (60) (ga)), (ra, aI E (180) (rf))] ++ zz E fo fd R60)) (As := []) (rest := [.int x68, .ref x]) (Spl.atZ [0, 1, 2, 3] [4, 5] rfl rfl rfl) 0 rfl rfl rfl rfl (Nat.le_of_ble_eq_true rfl) (by decide) (by omega) (by omega) (fun v w h => ?_)
            obtain ⟨x90, rfl, e90, rfl⟩ := h
            refine g_tail ?_
            change G E g ([(x, .inr (5, [.ref ip, z1, .ref lb, .ref fa, .ref ra, .int rc, .int pr, .int fc])), (lb, aB E (24) (lf)), (fa, aF E (60) (ga)), (ra, aI E (180) (rf)), (ip, .inr (3, [.ref ib, .int sz, .int pl])), (ib, aB E (1500) (f))] ++ zz E fo fd R60) _ _ _ _ [.int x90, .int x68, .ref x]
            refine g_goto C 97 dX3_read_93 (by decide) ?_
            refine g_lv [2, 0, 1] (lv' := [(0, .ref x), (1, .int x68), (2, .int x46)]) rfl ?_
            refine g_permZ [0, 4, 5, 1, 2, 3] rfl (ws' := [(x, .inr (5, [.ref ip, z1, .ref lb, .ref fa, .ref ra, .int rc, .int pr, .int fc])), (ip, .inr (3, [.ref ib, .int sz, .int pl])), (ib, aB E (1500) (f)), (lb, aB E (24) (lf)), (fa, aF E (60) (ga)), (ra, aI E (180) (rf))]) rfl rfl ?_
            exact J97 (x90) (by rw [if_pos (by omega)]; omega)
      · refine g_iconst C dX3_read_61 (by decide) (fun x61 e61 => ?_)
        refine g_permZ [0, 4, 5, 1, 2, 3] rfl (ws' := [(x, .inr (5, [.ref ip, z1, .ref lb, .ref fa, .ref ra, .int rc, .int pr, .int fc])), (ip, .inr (3, [.ref ib, .int sz, .int pl])), (ib, aB E (1500) (f)), (lb, aB E (24) (lf)), (fa, aF E (60) (ga)), (ra, aI E (180) (rf))]) rfl rfl ?_
        exact g_iret C F dX3_read_62 rfl rfl (by omega) (by omega) (by obtain ⟨h1, h2, h3⟩ := rd_2 (b := lk f P) (S := S) (P := P) (by omega) (by omega) (by omega); exact ⟨_, _, _, _, _, _, _, _, rfl, by omega, by omega, Or.inl ⟨h1, rfl, rfl, rfl, rfl, rfl, rfl⟩, rfl⟩)
    · refine g_aload_n C dX3_read_27 1 rfl ?_
      refine g_iload_n C dX3_read_28 0 rfl ?_
      refine g_aload_n C dX3_read_29 1 rfl ?_
      refine gf_X3_10 C 0 rfl rfl dX3_read_30 ?_
      refine g_callV C r mv_X3_53 dX3_read_33 (c_X1_left g.l E ip ib f sz pl S P hS hP hPS hSm) (wr := ([(x, .inr (5, [.ref ip, z1, .ref lb, .ref fa, .ref ra, .int rc, .int pr, .int fc])), (lb, aB E (24) (lf)), (fa, aF E (60) (ga)), (ra, aI E (180) (rf))] ++ zz E fo fd R60)) (As := []) (rest := [.int x18, .ref x]) (Spl.atZ [0, 1, 2, 3] [4, 5] rfl rfl rfl) 0 rfl rfl rfl rfl (Nat.le_of_ble_eq_true rfl) (by decide) (by omega) (by omega) (fun v w h => ?_)
      obtain ⟨x33, rfl, e33, rfl⟩ := h
      refine g_tail ?_
      change G E g ([(x, .inr (5, [.ref ip, z1, .ref lb, .ref fa, .ref ra, .int rc, .int pr, .int fc])), (lb, aB E (24) (lf)), (fa, aF E (60) (ga)), (ra, aI E (180) (rf)), (ip, .inr (3, [.ref ib, .int sz, .int pl])), (ib, aB E (1500) (f))] ++ zz E fo fd R60) _ _ _ _ [.int x33, .int x18, .ref x]
      refine g_callV C r mv_X3_60 dX3_read_36 (c_X3_refuse g.l E x ip ib f sz pl S P pr fc x18 x33 (S - P) (z1) (.ref lb) (.ref fa) (.ref ra) (.int rc) hS hP hPS hSm (by omega) (by omega) (by omega)) (wr := ([(lb, aB E (24) (lf)), (fa, aF E (60) (ga)), (ra, aI E (180) (rf))] ++ zz E fo fd R60)) (As := [.int x18, .int x33]) (rest := []) (Spl.atZ [1, 2, 3] [0, 4, 5] rfl rfl rfl) 0 rfl rfl rfl rfl (Nat.le_of_ble_eq_true rfl) (by decide) (by omega) (by omega) (fun v w h => ?_)
      obtain ⟨xr, pl9, pr9, fc9, rfl, er, ep, epr, efc, rfl⟩ := h
      refine g_tail ?_
      change G E g ([(lb, aB E (24) (lf)), (fa, aF E (60) (ga)), (ra, aI E (180) (rf)), (x, .inr (5, [.ref ip, z1, .ref lb, .ref fa, .ref ra, .int rc, .int pr9, .int fc9])), (ip, .inr (3, [.ref ib, .int sz, .int pl9])), (ib, aB E (1500) (f))] ++ zz E fo fd R60) _ _ _ _ [.int xr]
      refine g_permZ [3, 4, 5, 0, 1, 2] rfl (ws' := [(x, .inr (5, [.ref ip, z1, .ref lb, .ref fa, .ref ra, .int rc, .int pr9, .int fc9])), (ip, .inr (3, [.ref ib, .int sz, .int pl9])), (ib, aB E (1500) (f)), (lb, aB E (24) (lf)), (fa, aF E (60) (ga)), (ra, aI E (180) (rf))]) rfl rfl ?_
      exact g_iret C F dX3_read_39 rfl rfl (by omega) (by omega) (by obtain ⟨h1, h2, h3⟩ := rd_1 (b := lk f P) (S := S) (P := P) (by omega) (by omega); exact ⟨_, _, _, _, _, _, _, _, rfl, by omega, by omega, Or.inr (Or.inl ⟨h1, epr, efc, rfl, rfl, rfl, rfl⟩), rfl⟩)
  · refine g_iconst C dX3_read_12 (by decide) (fun x12 e12 => ?_)
    refine g_permZ [0, 4, 5, 1, 2, 3] rfl (ws' := [(x, .inr (5, [.ref ip, z1, .ref lb, .ref fa, .ref ra, .int rc, .int pr, .int fc])), (ip, .inr (3, [.ref ib, .int sz, .int pl])), (ib, aB E (1500) (f)), (lb, aB E (24) (lf)), (fa, aF E (60) (ga)), (ra, aI E (180) (rf))]) rfl rfl ?_
    exact g_iret C F dX3_read_13 rfl rfl (by omega) (by omega) (by obtain ⟨h1, h2, h3⟩ := rd_0 (b := lk f P) (S := S) (P := P) (by omega); exact ⟨_, _, _, _, _, _, _, _, rfl, by omega, by omega, Or.inl ⟨h1, rfl, rfl, rfl, rfl, rfl, rfl⟩, rfl⟩)
