set_option maxHeartbeats 6000000 in
set_option maxRecDepth 10000 in
theorem c_X4_keep (l : Launch) (E : GE) (m ib lb tb sb yb rb nr : Nat) (f lf tf sf yf rf nrf : Nat → Int32) (sz pl nf rc wr : Int32) (S P all : Nat) (z0 z4 z13 z14 : Value) (hS : sz.toInt = (S : Int)) (hP : pl.toInt = (P : Int)) (hPS : P ≤ S) (hSm : S ≤ 1500) (hal : all ≤ S - P) (h26 : 26 ≤ all) (hrec : wRec (lk f P) all = -1) (hRW : RW (lk f P) nrf (rCnt (lk f P))) (hBF : BF f) : Ctr l E yX4_keep cX4_keep 4 none 2 (0) (0) [.ref m] [(m, .inr (6, [z0, .ref ib, .int sz, .int pl, z4, .ref lb, .ref tb, .ref yb, .ref sb, .int nf, .ref rb, .ref nr, .int rc, z13, z14, .int wr])), (ib, aB E (1500) (f)), (lb, aB E (24) (lf)), (tb, aI E (60) (tf)), (sb, aI E (60) (sf)), (yb, aB E (114000) (yf)), (rb, aI E (180) (rf)), (nr, aI E (180) (nrf))] (fun v w => v = none ∧ ∃ (nf2 rc2 : Int32) (lf2 tf2 sf2 yf2 rf2 : Nat → Int32), nf2.toInt = (rCnt (lk f P) : Int) ∧ rc2.toInt = (rCnt (lk f P) : Int) ∧ (lf2 = fun j => if j < 24 then f (P + j) else lf j) ∧ MF tf2 sf2 yf2 (rdF (lk f P) (rCnt (lk f P))) ∧ (∀ j, j < 3 * rCnt (lk f P) → rf2 j = nrf j) ∧ w = [(m, .inr (6, [z0, .ref ib, .int sz, .int pl, z4, .ref lb, .ref tb, .ref yb, .ref sb, .int nf2, .ref rb, .ref nr, .int rc2, z13, z14, .int wr])), (ib, aB E (1500) (f)), (lb, aB E (24) (lf2)), (tb, aI E (60) (tf2)), (sb, aI E (60) (sf2)), (yb, aB E (114000) (yf2)), (rb, aI E (180) (rf2)), (nr, aI E (180) (nrf))]) := by
  refine Ctr.intro (by decide) (Nat.le_of_ble_eq_true rfl) (fun g hgl hN C r F hi => ?_)
  subst hgl
  obtain ⟨hnd, hok, hrows⟩ := wRec_ok h26 hrec
  have hcn : (rCnt (lk f P) : Int) = (numI (lk f P) 12 5 - 25) / 12 := by unfold rCnt; omega
  have hc60 : rCnt (lk f P) ≤ 60 := by omega
  have hbn : (rBase (lk f P) : Int) = numI (lk f P) 12 5 := by unfold rBase; omega
  change G E g [(m, .inr (6, [z0, .ref ib, .int sz, .int pl, z4, .ref lb, .ref tb, .ref yb, .ref sb, .int nf, .ref rb, .ref nr, .int rc, z13, z14, .int wr])), (ib, aB E (1500) (f)), (lb, aB E (24) (lf)), (tb, aI E (60) (tf)), (sb, aI E (60) (sf)), (yb, aB E (114000) (yf)), (rb, aI E (180) (rf)), (nr, aI E (180) (nrf))] 0 0 0 [(0, .ref m)] []
  refine g_aload_n C dX4_keep_0 0 rfl ?_
  refine g_bipush C dX4_keep_1 (by decide) (fun x1 e1 => ?_)
  refine g_iconst C dX4_keep_3 (by decide) (fun x3 e3 => ?_)
  refine g_callV C r mv_X4_68 dX4_keep_4 (c_X4_number g.l E m ib f sz pl wr (z0) (z4) (.ref lb) (.ref tb) (.ref yb) (.ref sb) (.int nf) (.ref rb) (.ref nr) (.int rc) (z13) (z14) S P x1 x3 12 5 hS hP hPS hSm (by omega) (by omega) (by decide) (by omega)) (wr := [(lb, aB E (24) (lf)), (tb, aI E (60) (tf)), (sb, aI E (60) (sf)), (yb, aB E (114000) (yf)), (rb, aI E (180) (rf)), (nr, aI E (180) (nrf))]) (As := [.int x1, .int x3]) (rest := []) (Spl.at [2, 3, 4, 5, 6, 7] [0, 1] rfl rfl rfl) 0 rfl rfl rfl rfl (Nat.le_of_ble_eq_true rfl) (by decide) (Nat.le_refl _) (Nat.le_refl _) (fun v w h => ?_)
  obtain ⟨x4, rfl, e4, rfl⟩ := h
  change G E g [(lb, aB E (24) (lf)), (tb, aI E (60) (tf)), (sb, aI E (60) (sf)), (yb, aB E (114000) (yf)), (rb, aI E (180) (rf)), (nr, aI E (180) (nrf)), (m, .inr (6, [z0, .ref ib, .int sz, .int pl, z4, .ref lb, .ref tb, .ref yb, .ref sb, .int nf, .ref rb, .ref nr, .int rc, z13, z14, .int wr])), (ib, aB E (1500) (f))] _ _ _ _ [.int x4]
  refine g_istore_n C dX4_keep_7 (by rw [hN]; decide) (lv' := [(1, .int x4), (0, .ref m)]) rfl ?_
  clear e1 e3
  refine g_aload_n C dX4_keep_8 1 rfl ?_
  refine g_iload_n C dX4_keep_9 0 rfl ?_
  refine g_bipush C dX4_keep_10 (by decide) (fun x10 e10 => ?_)
  refine g_isub C dX4_keep_12 (by omega) (fun x12 e12 => ?_)
  refine g_bipush C dX4_keep_13 (by decide) (fun x13 e13 => ?_)
  refine g_idiv C dX4_keep_15 (12) (e13) (by omega) (fun x15 e15 => ?_)
  refine gp_X4_85 C 6 rfl (Nat.le_of_ble_eq_true rfl) rfl rfl dX4_keep_16 ?_
  change G E g [(lb, aB E (24) (lf)), (tb, aI E (60) (tf)), (sb, aI E (60) (sf)), (yb, aB E (114000) (yf)), (rb, aI E (180) (rf)), (nr, aI E (180) (nrf)), (m, .inr (6, [z0, .ref ib, .int sz, .int pl, z4, .ref lb, .ref tb, .ref yb, .ref sb, .int nf, .ref rb, .ref nr, .int x15, z13, z14, .int wr])), (ib, aB E (1500) (f))] _ _ _ _ _
  have hx15 : x15.toInt = (rCnt (lk f P) : Int) := by omega
  refine g_iconst C dX4_keep_19 (by decide) (fun x19 e19 => ?_)
  refine g_istore_n C dX4_keep_20 (by rw [hN]; decide) (lv' := [(2, .int x19), (1, .int x4), (0, .ref m)]) rfl ?_
  have loop21 : ∀ (nn : Nat) (n2 : Int32) (lk2 : Nat → Int32) (k : Nat) (hm : 24 - k < nn) (hk : k ≤ 24) (hp : n2.toInt = (k : Int)) (hl : lk2 = fun j => if j < k then f (P + j) else lf j), G E g [(m, .inr (6, [z0, .ref ib, .int sz, .int pl, z4, .ref lb, .ref tb, .ref yb, .ref sb, .int nf, .ref rb, .ref nr, .int x15, z13, z14, .int wr])), (ib, aB E (1500) (f)), (lb, aB E (24) (lk2)), (tb, aI E (60) (tf)), (sb, aI E (60) (sf)), (yb, aB E (114000) (yf)), (rb, aI E (180) (rf)), (nr, aI E (180) (nrf))] 0 0 21 [(0, .ref m), (1, .int x4), (2, .int n2)] [] := by
    intro nn
    induction nn with
    | zero => intro n2 lk2 k hm hk hp hl; omega
    | succ nn ih21 =>
      intro n2 lk2 k hm hk hp hl
      refine g_iload_n C dX4_keep_21 2 rfl ?_
      refine g_bipush C dX4_keep_22 (by decide) (fun x22 e22 => ?_)
      refine g_icmp_ge C 50 dX4_keep_24 (by decide) (fun c24 => ?_) (fun c24 => ?_)
      · obtain rfl : k = 24 := by omega
        clear hk hp hm ih21 e19 e22 c24
        refine g_aload_n C dX4_keep_50 0 rfl ?_
        refine g_aload_n C dX4_keep_51 0 rfl ?_
        refine gf_X4_85 C 0 rfl rfl dX4_keep_52 ?_
        refine gp_X4_88 C 0 rfl (Nat.le_of_ble_eq_true rfl) rfl rfl dX4_keep_55 ?_
        change G E g [(m, .inr (6, [z0, .ref ib, .int sz, .int pl, z4, .ref lb, .ref tb, .ref yb, .ref sb, .int x15, .ref rb, .ref nr, .int x15, z13, z14, .int wr])), (ib, aB E (1500) (f)), (lb, aB E (24) (lk2)), (tb, aI E (60) (tf)), (sb, aI E (60) (sf)), (yb, aB E (114000) (yf)), (rb, aI E (180) (rf)), (nr, aI E (180) (nrf))] _ _ _ _ _
        refine g_iconst C dX4_keep_58 (by decide) (fun x58 e58 => ?_)
        refine g_istore_n C dX4_keep_59 (by rw [hN]; decide) (lv' := [(2, .int x58), (0, .ref m), (1, .int x4)]) rfl ?_
        have loop60 : ∀ (nn : Nat) (n2 : Int32) (tk : Nat → Int32) (sk : Nat → Int32) (yk : Nat → Int32) (rk : Nat → Int32) (r : Nat) (hm : rCnt (lk f P) - r < nn) (hr : r ≤ rCnt (lk f P)) (hp : n2.toInt = (r : Int)) (hmf : MF tk sk yk (rdF (lk f P) r)) (hrr : ∀ j, j < 3 * r → rk j = nrf j), G E g [(m, .inr (6, [z0, .ref ib, .int sz, .int pl, z4, .ref lb, .ref tb, .ref yb, .ref sb, .int x15, .ref rb, .ref nr, .int x15, z13, z14, .int wr])), (ib, aB E (1500) (f)), (lb, aB E (24) (lk2)), (tb, aI E (60) (tk)), (sb, aI E (60) (sk)), (yb, aB E (114000) (yk)), (rb, aI E (180) (rk)), (nr, aI E (180) (nrf))] 0 0 60 [(0, .ref m), (1, .int x4), (2, .int n2)] [] := by
          intro nn
          induction nn with
          | zero => intro n2 tk sk yk rk r hm hr hp hmf hrr; omega
          | succ nn ih60 =>
            intro n2 tk sk yk rk r hm hr hp hmf hrr
            refine g_iload_n C dX4_keep_60 2 rfl ?_
            refine g_aload_n C dX4_keep_61 0 rfl ?_
            refine gf_X4_85 C 0 rfl rfl dX4_keep_62 ?_
            refine g_icmp_ge C 193 dX4_keep_65 (by decide) (fun c65 => ?_) (fun c65 => ?_)
            · exact g_vret C F dX4_keep_193 (Nat.le_refl _) (Nat.le_refl _) (by have hr9 : r = rCnt (lk f P) := (by omega); subst hr9; exact ⟨rfl, _, _, _, _, _, _, _, hx15, hx15, hl, hmf, hrr, rfl⟩)
            · obtain ⟨w1, w2, w3, w4, w5⟩ := wRow_ok (hrows r (by omega))
              obtain ⟨q1, q2, q3⟩ := hRW r (by omega)
              have hlt := rd_lt (r := r) hrows (by omega) (by omega)
              have hLn : (rLen (lk f P) r : Int) = numI (lk f P) (24 + 12 * r + 3) 4 := by unfold rLen; omega
              have hSt : (rSt (lk f P) r : Int) = numI (lk f P) (24 + 12 * r + 7) 5 := by unfold rSt; omega
              have hTg : (rTag (lk f P) r : Int) = numI (lk f P) (24 + 12 * r) 3 := by unfold rTag; omega
              refine g_iconst C dX4_keep_68 (by decide) (fun x68 e68 => ?_)
              refine g_istore_n C dX4_keep_69 (by rw [hN]; decide) (lv' := [(3, .int x68), (0, .ref m), (1, .int x4), (2, .int n2)]) rfl ?_
              have loop70 : ∀ (nn : Nat) (n3 : Int32) (rj : Nat → Int32) (j : Nat) (hm : 3 - j < nn) (hj : j ≤ 3) (hp3 : n3.toInt = (j : Int)) (hrj : ∀ i, i < 3 * r + j → rj i = nrf i), G E g [(m, .inr (6, [z0, .ref ib, .int sz, .int pl, z4, .ref lb, .ref tb, .ref yb, .ref sb, .int x15, .ref rb, .ref nr, .int x15, z13, z14, .int wr])), (ib, aB E (1500) (f)), (lb, aB E (24) (lk2)), (tb, aI E (60) (tk)), (sb, aI E (60) (sk)), (yb, aB E (114000) (yk)), (rb, aI E (180) (rj)), (nr, aI E (180) (nrf))] 0 0 70 [(0, .ref m), (1, .int x4), (2, .int n2), (3, .int n3)] [] := by
                intro nn
                induction nn with
                | zero => intro n3 rj j hm hj hp3 hrj; omega
                | succ nn ih70 =>
                  intro n3 rj j hm hj hp3 hrj
                  refine g_iload_n C dX4_keep_70 3 rfl ?_
                  refine g_iconst C dX4_keep_71 (by decide) (fun x71 e71 => ?_)
                  refine g_icmp_ge C 101 dX4_keep_72 (by decide) (fun c72 => ?_) (fun c72 => ?_)
                  · obtain rfl : j = 3 := by omega
                    have r0 := hrj (3 * r) (by omega)
                    have r1 := hrj (3 * r + 1) (by omega)
                    have r2 := hrj (3 * r + 2) (by omega)
                    rw [← r0] at q1
                    rw [← r1] at q2
                    rw [← r2] at q3
                    clear hp3 hj hm ih70 r0 r1 r2
                    refine g_aload_n C dX4_keep_101 0 rfl ?_
                    refine gf_X4_16 C 0 rfl rfl dX4_keep_102 ?_
                    refine g_iload_n C dX4_keep_105 2 rfl ?_
                    refine g_aload_n C dX4_keep_106 0 rfl ?_
                    refine gf_X4_27 C 0 rfl rfl dX4_keep_107 ?_
                    refine g_iconst C dX4_keep_110 (by decide) (fun x110 e110 => ?_)
                    refine g_iload_n C dX4_keep_111 2 rfl ?_
                    refine g_imul C dX4_keep_112 (3 * n2.toInt) (by rw [e110]) (by omega) (fun x112 e112 => ?_)
                    refine g_iaload C 6 rfl dX4_keep_113 (3 * r) (by omega) (by omega) (fun x113 e113 => ?_)
                    have t113 := congrArg Int32.toInt e113
                    refine g_iastore C 3 rfl dX4_keep_114 (r) (by omega) (by omega) ?_
                    change G E g [(m, .inr (6, [z0, .ref ib, .int sz, .int pl, z4, .ref lb, .ref tb, .ref yb, .ref sb, .int x15, .ref rb, .ref nr, .int x15, z13, z14, .int wr])), (ib, aB E (1500) (f)), (lb, aB E (24) (lk2)), (tb, aI E (60) (upd (tk) (r) x113)), (sb, aI E (60) (sk)), (yb, aB E (114000) (yk)), (rb, aI E (180) (rj)), (nr, aI E (180) (nrf))] _ _ _ _ _
                    refine g_aload_n C dX4_keep_115 0 rfl ?_
                    refine gf_X4_24 C 0 rfl rfl dX4_keep_116 ?_
                    refine g_iload_n C dX4_keep_119 2 rfl ?_
                    refine g_aload_n C dX4_keep_120 0 rfl ?_
                    refine gf_X4_27 C 0 rfl rfl dX4_keep_121 ?_
                    refine g_iconst C dX4_keep_124 (by decide) (fun x124 e124 => ?_)
                    refine g_iload_n C dX4_keep_125 2 rfl ?_
                    refine g_imul C dX4_keep_126 (3 * n2.toInt) (by rw [e124]) (by omega) (fun x126 e126 => ?_)
                    refine g_iconst C dX4_keep_127 (by decide) (fun x127 e127 => ?_)
                    refine g_iadd C dX4_keep_128 (by omega) (fun x128 e128 => ?_)
                    refine g_iaload C 6 rfl dX4_keep_129 (3 * r + 1) (by omega) (by omega) (fun x129 e129 => ?_)
                    have t129 := congrArg Int32.toInt e129
                    refine g_iconst C dX4_keep_130 (by decide) (fun x130 e130 => ?_)
                    refine g_isub C dX4_keep_131 (by omega) (fun x131 e131 => ?_)
                    refine g_iastore C 4 rfl dX4_keep_132 (r) (by omega) (by omega) ?_
                    change G E g [(m, .inr (6, [z0, .ref ib, .int sz, .int pl, z4, .ref lb, .ref tb, .ref yb, .ref sb, .int x15, .ref rb, .ref nr, .int x15, z13, z14, .int wr])), (ib, aB E (1500) (f)), (lb, aB E (24) (lk2)), (tb, aI E (60) (upd (tk) (r) x113)), (sb, aI E (60) (upd (sk) (r) x131)), (yb, aB E (114000) (yk)), (rb, aI E (180) (rj)), (nr, aI E (180) (nrf))] _ _ _ _ _
                    refine g_iconst C dX4_keep_133 (by decide) (fun x133 e133 => ?_)
                    refine g_istore_n C dX4_keep_134 (by rw [hN]; decide) (lv' := [(3, .int x133), (0, .ref m), (1, .int x4), (2, .int n2)]) rfl ?_
                    have loop135 : ∀ (nn : Nat) (m3 : Int32) (yj : Nat → Int32) (k3 : Nat) (hm : rLen (lk f P) r - k3 < nn) (hk3 : k3 ≤ rLen (lk f P) r - 1) (hp4 : m3.toInt = (k3 : Int)) (hmy : MF tk sk yj (rdF (lk f P) r)) (hby : Bs yj (1900 * r) (sl (lk f P) (rBase (lk f P) + rSt (lk f P) r) k3)), G E g [(m, .inr (6, [z0, .ref ib, .int sz, .int pl, z4, .ref lb, .ref tb, .ref yb, .ref sb, .int x15, .ref rb, .ref nr, .int x15, z13, z14, .int wr])), (ib, aB E (1500) (f)), (lb, aB E (24) (lk2)), (tb, aI E (60) (upd (tk) (r) x113)), (sb, aI E (60) (upd (sk) (r) x131)), (yb, aB E (114000) (yj)), (rb, aI E (180) (rj)), (nr, aI E (180) (nrf))] 0 0 135 [(0, .ref m), (1, .int x4), (2, .int n2), (3, .int m3)] [] := by
                      intro nn
                      induction nn with
                      | zero => intro m3 yj k3 hm hk3 hp4 hmy hby; omega
                      | succ nn ih135 =>
                        intro m3 yj k3 hm hk3 hp4 hmy hby
                        refine g_iload_n C dX4_keep_135 3 rfl ?_
                        refine g_aload_n C dX4_keep_136 0 rfl ?_
                        refine gf_X4_24 C 0 rfl rfl dX4_keep_137 ?_
                        refine g_iload_n C dX4_keep_140 2 rfl ?_
                        refine g_iaload C 4 rfl dX4_keep_141 (r) (by omega) (by omega) (fun x141 e141 => ?_)
                        have t141 := congrArg Int32.toInt e141
                        refine g_icmp_ge C 187 dX4_keep_142 (by decide) (fun c142 => ?_) (fun c142 => ?_)
                        · rw [upd_s] at t141
                          obtain rfl : k3 = rLen (lk f P) r - 1 := by omega
                          have hmf9 := kp_mf hmy hby t113 q1 hTg (show x131.toInt = _ by omega)
                          have hrr9 : ∀ j, j < 3 * (r + 1) → rj j = nrf j := fun j hj => hrj j (by omega)
                          refine g_iinc C dX4_keep_187 2 rfl (by rw [hN]; decide) (by decide) (by omega) (fun x187 e187 => ?_)
                          refine g_lvE (lv' := [(2, .int x187), (0, .ref m), (1, .int x4), (3, .int m3)]) rfl ?_
                          refine g_goto C 60 dX4_keep_190 (by decide) ?_
                          refine g_lv [1, 2, 0] (lv' := [(0, .ref m), (1, .int x4), (2, .int x187)]) rfl ?_
                          exact ih60 (x187) (upd (tk) (r) x113) (upd (sk) (r) x131) (yj) (rj) (r + 1) (by omega) (by omega) (by omega) (by exact hmf9) (by exact hrr9)
                        · rw [upd_s] at t141
                          refine g_aload_n C dX4_keep_145 0 rfl ?_
                          refine gf_X4_21 C 0 rfl rfl dX4_keep_146 ?_
                          refine g_sipush C dX4_keep_149 (by decide) (fun x149 e149 => ?_)
                          refine g_iload_n C dX4_keep_152 2 rfl ?_
                          refine g_imul C dX4_keep_153 (1900 * n2.toInt) (by rw [e149]) (by omega) (fun x153 e153 => ?_)
                          refine g_iload_n C dX4_keep_154 3 rfl ?_
                          refine g_iadd C dX4_keep_155 (by omega) (fun x155 e155 => ?_)
                          refine g_aload_n C dX4_keep_156 0 rfl ?_
                          refine gf_X4_7 C 0 rfl rfl dX4_keep_157 ?_
                          refine g_aload_n C dX4_keep_160 0 rfl ?_
                          refine gf_X4_44 C 0 rfl rfl dX4_keep_161 ?_
                          refine g_iload_n C dX4_keep_164 1 rfl ?_
                          refine g_iadd C dX4_keep_165 (by omega) (fun x165 e165 => ?_)
                          refine g_aload_n C dX4_keep_166 0 rfl ?_
                          refine gf_X4_27 C 0 rfl rfl dX4_keep_167 ?_
                          refine g_iconst C dX4_keep_170 (by decide) (fun x170 e170 => ?_)
                          refine g_iload_n C dX4_keep_171 2 rfl ?_
                          refine g_imul C dX4_keep_172 (3 * n2.toInt) (by rw [e170]) (by omega) (fun x172 e172 => ?_)
                          refine g_iconst C dX4_keep_173 (by decide) (fun x173 e173 => ?_)
                          refine g_iadd C dX4_keep_174 (by omega) (fun x174 e174 => ?_)
                          refine g_iaload C 6 rfl dX4_keep_175 (3 * r + 2) (by omega) (by omega) (fun x175 e175 => ?_)
                          have t175 := congrArg Int32.toInt e175
                          refine g_iadd C dX4_keep_176 (by omega) (fun x176 e176 => ?_)
                          refine g_iload_n C dX4_keep_177 3 rfl ?_
                          refine g_iadd C dX4_keep_178 (by omega) (fun x178 e178 => ?_)
                          refine g_baload C 1 rfl dX4_keep_179 (P + (rBase (lk f P) + rSt (lk f P) r + k3)) (by omega) (by omega) (fun x179 e179 => ?_)
                          refine g_bastore C 5 rfl dX4_keep_180 (1900 * r + k3) (by omega) (by omega) ?_
                          change G E g [(m, .inr (6, [z0, .ref ib, .int sz, .int pl, z4, .ref lb, .ref tb, .ref yb, .ref sb, .int x15, .ref rb, .ref nr, .int x15, z13, z14, .int wr])), (ib, aB E (1500) (f)), (lb, aB E (24) (lk2)), (tb, aI E (60) (upd (tk) (r) x113)), (sb, aI E (60) (upd (sk) (r) x131)), (yb, aB E (114000) (upd (yj) (1900 * r + k3) (sB (u8 x179)))), (rb, aI E (180) (rj)), (nr, aI E (180) (nrf))] _ _ _ _ _
                          refine g_iinc C dX4_keep_181 3 rfl (by rw [hN]; decide) (by decide) (by omega) (fun x181 e181 => ?_)
                          refine g_lvE (lv' := [(3, .int x181), (0, .ref m), (1, .int x4), (2, .int n2)]) rfl ?_
                          refine g_goto C 135 dX4_keep_184 (by decide) ?_
                          refine g_lv [1, 2, 3, 0] (lv' := [(0, .ref m), (1, .int x4), (2, .int n2), (3, .int x181)]) rfl ?_
                          exact ih135 (x181) (upd (yj) (1900 * r + k3) (sB (u8 x179))) (k3 + 1) (by omega) (by omega) (by omega) (by exact MF_y hmy hlt (by rw [rdF_len]; omega)) (by have h8 := Bs_snoc hby (u8 x179); rw [sl_len] at h8; rw [show sl (lk f P) (rBase (lk f P) + rSt (lk f P) r) (k3 + 1) = sl (lk f P) (rBase (lk f P) + rSt (lk f P) r) k3 ++ [u8 x179] by rw [e179]; rfl]; exact h8)
                    refine g_lv [1, 2, 3, 0] (lv' := [(0, .ref m), (1, .int x4), (2, .int n2), (3, .int x133)]) rfl ?_
                    exact loop135 _ (x133) (yk) (0) (Nat.lt_succ_self _) (by omega) (by omega) (by exact hmf) (by exact Bs_nil _ _)
                  · refine g_aload_n C dX4_keep_75 0 rfl ?_
                    refine gf_X4_27 C 0 rfl rfl dX4_keep_76 ?_
                    refine g_iconst C dX4_keep_79 (by decide) (fun x79 e79 => ?_)
                    refine g_iload_n C dX4_keep_80 2 rfl ?_
                    refine g_imul C dX4_keep_81 (3 * n2.toInt) (by rw [e79]) (by omega) (fun x81 e81 => ?_)
                    refine g_iload_n C dX4_keep_82 3 rfl ?_
                    refine g_iadd C dX4_keep_83 (by omega) (fun x83 e83 => ?_)
                    refine g_aload_n C dX4_keep_84 0 rfl ?_
                    refine gf_X4_30 C 0 rfl rfl dX4_keep_85 ?_
                    refine g_iconst C dX4_keep_88 (by decide) (fun x88 e88 => ?_)
                    refine g_iload_n C dX4_keep_89 2 rfl ?_
                    refine g_imul C dX4_keep_90 (3 * n2.toInt) (by rw [e88]) (by omega) (fun x90 e90 => ?_)
                    refine g_iload_n C dX4_keep_91 3 rfl ?_
                    refine g_iadd C dX4_keep_92 (by omega) (fun x92 e92 => ?_)
                    refine g_iaload C 7 rfl dX4_keep_93 (3 * r + j) (by omega) (by omega) (fun x93 e93 => ?_)
                    have t93 := congrArg Int32.toInt e93
                    refine g_iastore C 6 rfl dX4_keep_94 (3 * r + j) (by omega) (by omega) ?_
                    change G E g [(m, .inr (6, [z0, .ref ib, .int sz, .int pl, z4, .ref lb, .ref tb, .ref yb, .ref sb, .int x15, .ref rb, .ref nr, .int x15, z13, z14, .int wr])), (ib, aB E (1500) (f)), (lb, aB E (24) (lk2)), (tb, aI E (60) (tk)), (sb, aI E (60) (sk)), (yb, aB E (114000) (yk)), (rb, aI E (180) (upd (rj) (3 * r + j) x93)), (nr, aI E (180) (nrf))] _ _ _ _ _
                    refine g_iinc C dX4_keep_95 3 rfl (by rw [hN]; decide) (by decide) (by omega) (fun x95 e95 => ?_)
                    refine g_lvE (lv' := [(3, .int x95), (0, .ref m), (1, .int x4), (2, .int n2)]) rfl ?_
                    refine g_goto C 70 dX4_keep_98 (by decide) ?_
                    refine g_lv [1, 2, 3, 0] (lv' := [(0, .ref m), (1, .int x4), (2, .int n2), (3, .int x95)]) rfl ?_
                    exact ih70 (x95) (upd (rj) (3 * r + j) x93) (j + 1) (by omega) (by omega) (by omega) (by exact kp_row hrj e93)
              refine g_lv [1, 2, 3, 0] (lv' := [(0, .ref m), (1, .int x4), (2, .int n2), (3, .int x68)]) rfl ?_
              exact loop70 _ (x68) (rk) (0) (Nat.lt_succ_self _) (by omega) (by omega) (by exact hrr)
        refine g_lv [1, 2, 0] (lv' := [(0, .ref m), (1, .int x4), (2, .int x58)]) rfl ?_
        exact loop60 _ (x58) (tf) (sf) (yf) (rf) (0) (Nat.lt_succ_self _) (by omega) (by omega) (by intro j hj; exact absurd hj (Nat.not_lt_zero _)) (by intro j hj; omega)
      · refine g_aload_n C dX4_keep_27 0 rfl ?_
        refine gf_X4_13 C 0 rfl rfl dX4_keep_28 ?_
        refine g_iload_n C dX4_keep_31 2 rfl ?_
        refine g_aload_n C dX4_keep_32 0 rfl ?_
        refine gf_X4_7 C 0 rfl rfl dX4_keep_33 ?_
        refine g_aload_n C dX4_keep_36 0 rfl ?_
        refine gf_X4_44 C 0 rfl rfl dX4_keep_37 ?_
        refine g_iload_n C dX4_keep_40 2 rfl ?_
        refine g_iadd C dX4_keep_41 (by omega) (fun x41 e41 => ?_)
        refine g_baload C 1 rfl dX4_keep_42 (P + k) (by omega) (by omega) (fun x42 e42 => ?_)
        refine g_bastore C 2 rfl dX4_keep_43 (k) (by omega) (by omega) ?_
        change G E g [(m, .inr (6, [z0, .ref ib, .int sz, .int pl, z4, .ref lb, .ref tb, .ref yb, .ref sb, .int nf, .ref rb, .ref nr, .int x15, z13, z14, .int wr])), (ib, aB E (1500) (f)), (lb, aB E (24) (upd (lk2) (k) (sB (u8 x42)))), (tb, aI E (60) (tf)), (sb, aI E (60) (sf)), (yb, aB E (114000) (yf)), (rb, aI E (180) (rf)), (nr, aI E (180) (nrf))] _ _ _ _ _
        refine g_iinc C dX4_keep_44 2 rfl (by rw [hN]; decide) (by decide) (by omega) (fun x44 e44 => ?_)
        refine g_lvE (lv' := [(2, .int x44), (0, .ref m), (1, .int x4)]) rfl ?_
        refine g_goto C 21 dX4_keep_47 (by decide) ?_
        refine g_lv [1, 2, 0] (lv' := [(0, .ref m), (1, .int x4), (2, .int x44)]) rfl ?_
        exact ih21 (x44) (upd (lk2) (k) (sB (u8 x42))) (k + 1) (by omega) (by omega) (by omega) (by rw [hl, e42, ← hBF]; exact kp_step _ _ _ _)
  refine g_lv [2, 1, 0] (lv' := [(0, .ref m), (1, .int x4), (2, .int x19)]) rfl ?_
  refine g_perm [6, 7, 0, 1, 2, 3, 4, 5] rfl (ws' := [(m, .inr (6, [z0, .ref ib, .int sz, .int pl, z4, .ref lb, .ref tb, .ref yb, .ref sb, .int nf, .ref rb, .ref nr, .int x15, z13, z14, .int wr])), (ib, aB E (1500) (f)), (lb, aB E (24) (lf)), (tb, aI E (60) (tf)), (sb, aI E (60) (sf)), (yb, aB E (114000) (yf)), (rb, aI E (180) (rf)), (nr, aI E (180) (nrf))]) rfl ?_
  exact loop21 _ (x19) (lf) (0) (Nat.lt_succ_self _) (by omega) (by omega) (by funext j; simp)
