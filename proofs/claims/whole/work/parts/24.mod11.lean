set_option maxHeartbeats 4000000 in
set_option maxRecDepth 10000 in
theorem c_X4_read (l : Launch) (E : GE) (m ib lb tb sb yb rb nr : Nat) (f lf tf sf yf rf nrf : Nat → Int32) (t0 sz pl te nf rc wr : Int32) (S P : Nat) (z13 z14 : Value) (hS : sz.toInt = (S : Int)) (hP : pl.toInt = (P : Int)) (hPS : P ≤ S) (hSm : S ≤ 1500) (hBF : BF f) : Ctr l E yX4_read cX4_read 2 (some .int) 5 (0) (0) [.ref m] [(m, .inr (6, [.int t0, .ref ib, .int sz, .int pl, .int te, .ref lb, .ref tb, .ref yb, .ref sb, .int nf, .ref rb, .ref nr, .int rc, z13, z14, .int wr])), (ib, aB E (1500) (f)), (lb, aB E (24) (lf)), (tb, aI E (60) (tf)), (sb, aI E (60) (sf)), (yb, aB E (114000) (yf)), (rb, aI E (180) (rf)), (nr, aI E (180) (nrf))] (fun v w => ∃ (r t pl2 te2 nf2 rc2 wr2 : Int32) (lf2 tf2 sf2 yf2 rf2 nrf2 : Nat → Int32), v = some (.int r) ∧ t.toInt = 0 ∧ r.toInt = rdR (lk f P) S P ∧ pl2.toInt = (rdP (lk f P) S P : Int) ∧ ((rdK (lk f P) S P = 0 ∧ te2 = te ∧ nf2 = nf ∧ rc2 = rc ∧ lf2 = lf ∧ tf2 = tf ∧ sf2 = sf ∧ yf2 = yf ∧ rf2 = rf) ∨ (rdK (lk f P) S P = 1 ∧ te2.toInt = 0 ∧ nf2 = nf ∧ rc2 = rc ∧ rf2 = rf) ∨ (rdK (lk f P) S P = 2 ∧ wRec (lk f P) (rdA (lk f P)) = -1 ∧ 26 ≤ rdA (lk f P) ∧ P + rdA (lk f P) ≤ S ∧ te2.toInt = 1 ∧ nf2.toInt = (rCnt (lk f P) : Int) ∧ rc2.toInt = (rCnt (lk f P) : Int) ∧ (∀ j, j < 24 → lf2 j = f (P + j)) ∧ MF tf2 sf2 yf2 (rdF (lk f P) (rCnt (lk f P))) ∧ RW (lk f P) rf2 (rCnt (lk f P)))) ∧ w = [(m, .inr (6, [.int t, .ref ib, .int sz, .int pl2, .int te2, .ref lb, .ref tb, .ref yb, .ref sb, .int nf2, .ref rb, .ref nr, .int rc2, z13, z14, .int wr2])), (ib, aB E (1500) (f)), (lb, aB E (24) (lf2)), (tb, aI E (60) (tf2)), (sb, aI E (60) (sf2)), (yb, aB E (114000) (yf2)), (rb, aI E (180) (rf2)), (nr, aI E (180) (nrf2))]) := by
  refine Ctr.intro (by decide) (Nat.le_of_ble_eq_true rfl) (fun g hgl hN C r F hi => ?_)
  subst hgl
  have hb8 := lk_lt f P
  change G E g [(m, .inr (6, [.int t0, .ref ib, .int sz, .int pl, .int te, .ref lb, .ref tb, .ref yb, .ref sb, .int nf, .ref rb, .ref nr, .int rc, z13, z14, .int wr])), (ib, aB E (1500) (f)), (lb, aB E (24) (lf)), (tb, aI E (60) (tf)), (sb, aI E (60) (sf)), (yb, aB E (114000) (yf)), (rb, aI E (180) (rf)), (nr, aI E (180) (nrf))] 0 0 0 [(0, .ref m)] []
  refine g_aload_n C dX4_read_0 0 rfl ?_
  refine g_iconst C dX4_read_1 (by decide) (fun x1 e1 => ?_)
  refine gp_X4_37 C 0 rfl (Nat.le_of_ble_eq_true rfl) rfl rfl dX4_read_2 ?_
  change G E g [(m, .inr (6, [.int x1, .ref ib, .int sz, .int pl, .int te, .ref lb, .ref tb, .ref yb, .ref sb, .int nf, .ref rb, .ref nr, .int rc, z13, z14, .int wr])), (ib, aB E (1500) (f)), (lb, aB E (24) (lf)), (tb, aI E (60) (tf)), (sb, aI E (60) (sf)), (yb, aB E (114000) (yf)), (rb, aI E (180) (rf)), (nr, aI E (180) (nrf))] _ _ _ _ _
  refine g_aload_n C dX4_read_5 0 rfl ?_
  refine gf_X4_41 C 0 rfl rfl dX4_read_6 ?_
  refine g_aload_n C dX4_read_9 0 rfl ?_
  refine gf_X4_44 C 0 rfl rfl dX4_read_10 ?_
  refine g_isub C dX4_read_13 (by omega) (fun x13 e13 => ?_)
  refine g_bipush C dX4_read_14 (by decide) (fun x14 e14 => ?_)
  refine g_icmp_ge C 21 dX4_read_16 (by decide) (fun c16 => ?_) (fun c16 => ?_)
  · refine g_aload_n C dX4_read_21 0 rfl ?_
    refine g_iconst C dX4_read_22 (by decide) (fun x22 e22 => ?_)
    refine g_iconst C dX4_read_23 (by decide) (fun x23 e23 => ?_)
    refine g_callV C r mv_X4_65 dX4_read_24 (c_X4_digits g.l E m ib f sz pl wr (.int x1) (.int te) (.ref lb) (.ref tb) (.ref yb) (.ref sb) (.int nf) (.ref rb) (.ref nr) (.int rc) (z13) (z14) S P x22 x23 0 5 hS hP hPS hSm (by omega) (by omega) (by omega)) (wr := [(lb, aB E (24) (lf)), (tb, aI E (60) (tf)), (sb, aI E (60) (sf)), (yb, aB E (114000) (yf)), (rb, aI E (180) (rf)), (nr, aI E (180) (nrf))]) (As := [.int x22, .int x23]) (rest := []) (Spl.at [2, 3, 4, 5, 6, 7] [0, 1] rfl rfl rfl) 0 rfl rfl rfl rfl (Nat.le_of_ble_eq_true rfl) (by decide) (Nat.le_refl _) (Nat.le_refl _) (fun v w h => ?_)
    obtain ⟨x24, w24, rfl, e24, rfl⟩ := h
    change G E g [(lb, aB E (24) (lf)), (tb, aI E (60) (tf)), (sb, aI E (60) (sf)), (yb, aB E (114000) (yf)), (rb, aI E (180) (rf)), (nr, aI E (180) (nrf)), (m, .inr (6, [.int x1, .ref ib, .int sz, .int pl, .int te, .ref lb, .ref tb, .ref yb, .ref sb, .int nf, .ref rb, .ref nr, .int rc, z13, z14, .int w24])), (ib, aB E (1500) (f))] _ _ _ _ [.int x24]
    refine g_if_ne C 50 dX4_read_27 (by decide) (fun c27 => ?_) (fun c27 => ?_)
    · replace e24 := bl1 e24 c27
      obtain ⟨hnd, rfl⟩ := e24
      have hd := num5 (b := lk f P) (fr := 0) (fun j h1 h2 => nD_dig (fr := 0) (n := 5) hnd j h1 h2)
      clear e22 e23 c27
      refine g_aload_n C dX4_read_50 0 rfl ?_
      refine g_iconst C dX4_read_51 (by decide) (fun x51 e51 => ?_)
      refine g_iconst C dX4_read_52 (by decide) (fun x52 e52 => ?_)
      refine g_callV C r mv_X4_68 dX4_read_53 (c_X4_number g.l E m ib f sz pl w24 (.int x1) (.int te) (.ref lb) (.ref tb) (.ref yb) (.ref sb) (.int nf) (.ref rb) (.ref nr) (.int rc) (z13) (z14) S P x51 x52 0 5 hS hP hPS hSm (by omega) (by omega) (by decide) (by omega)) (wr := [(lb, aB E (24) (lf)), (tb, aI E (60) (tf)), (sb, aI E (60) (sf)), (yb, aB E (114000) (yf)), (rb, aI E (180) (rf)), (nr, aI E (180) (nrf))]) (As := [.int x51, .int x52]) (rest := []) (Spl.at [0, 1, 2, 3, 4, 5] [6, 7] rfl rfl rfl) 0 rfl rfl rfl rfl (Nat.le_of_ble_eq_true rfl) (by decide) (Nat.le_refl _) (Nat.le_refl _) (fun v w h => ?_)
      obtain ⟨x53, rfl, e53, rfl⟩ := h
      change G E g [(lb, aB E (24) (lf)), (tb, aI E (60) (tf)), (sb, aI E (60) (sf)), (yb, aB E (114000) (yf)), (rb, aI E (180) (rf)), (nr, aI E (180) (nrf)), (m, .inr (6, [.int x1, .ref ib, .int sz, .int pl, .int te, .ref lb, .ref tb, .ref yb, .ref sb, .int nf, .ref rb, .ref nr, .int rc, z13, z14, .int w24])), (ib, aB E (1500) (f))] _ _ _ _ [.int x53]
      refine g_istore_n C dX4_read_56 (by rw [hN]; decide) (lv' := [(1, .int x53), (0, .ref m)]) rfl ?_
      have hA : x53.toInt = (rdA (lk f P) : Int) := by unfold rdA; omega
      clear e51 e52
      refine g_iload_n C dX4_read_57 0 rfl ?_
      refine g_bipush C dX4_read_58 (by decide) (fun x58 e58 => ?_)
      refine g_icmp_ge C 78 dX4_read_60 (by decide) (fun c60 => ?_) (fun c60 => ?_)
      · have hT := wTot_c hnd (by omega)
        refine g_aload_n C dX4_read_78 1 rfl ?_
        refine gf_X4_41 C 6 rfl rfl dX4_read_79 ?_
        refine g_aload_n C dX4_read_82 1 rfl ?_
        refine gf_X4_44 C 6 rfl rfl dX4_read_83 ?_
        refine g_isub C dX4_read_86 (by omega) (fun x86 e86 => ?_)
        refine g_iload_n C dX4_read_87 0 rfl ?_
        refine g_icmp_ge C 93 dX4_read_88 (by decide) (fun c88 => ?_) (fun c88 => ?_)
        · refine g_aload_n C dX4_read_93 1 rfl ?_
          refine g_aload_n C dX4_read_94 1 rfl ?_
          refine g_iload_n C dX4_read_95 0 rfl ?_
          refine g_callV C r mv_X4_95 dX4_read_96 (c_X4_reads g.l E m ib nr f nrf sz pl w24 (.int x1) (.int te) (.ref lb) (.ref tb) (.ref yb) (.ref sb) (.int nf) (.ref rb) (.int rc) (z13) (z14) S P x53 (rdA (lk f P)) hS hP hPS hSm (by omega) (by omega) (by omega)) (wr := [(lb, aB E (24) (lf)), (tb, aI E (60) (tf)), (sb, aI E (60) (sf)), (yb, aB E (114000) (yf)), (rb, aI E (180) (rf))]) (As := [.int x53]) (rest := [.ref m]) (Spl.at [0, 1, 2, 3, 4] [6, 7, 5] rfl rfl rfl) 0 rfl rfl rfl rfl (Nat.le_of_ble_eq_true rfl) (by decide) (Nat.le_refl _) (Nat.le_refl _) (fun v w h => ?_)
          obtain ⟨x96, w96, nf96, rfl, e96, rfl⟩ := h
          change G E g [(lb, aB E (24) (lf)), (tb, aI E (60) (tf)), (sb, aI E (60) (sf)), (yb, aB E (114000) (yf)), (rb, aI E (180) (rf)), (m, .inr (6, [.int x1, .ref ib, .int sz, .int pl, .int te, .ref lb, .ref tb, .ref yb, .ref sb, .int nf, .ref rb, .ref nr, .int rc, z13, z14, .int w96])), (ib, aB E (1500) (f)), (nr, aI E (180) (nf96))] _ _ _ _ [.int x96, .ref m]
          refine gp_X4_91 C 5 rfl (Nat.le_of_ble_eq_true rfl) (nz_b x96 (by omega)) (fz_b x96 (by omega)) dX4_read_99 ?_
          change G E g [(lb, aB E (24) (lf)), (tb, aI E (60) (tf)), (sb, aI E (60) (sf)), (yb, aB E (114000) (yf)), (rb, aI E (180) (rf)), (m, .inr (6, [.int x1, .ref ib, .int sz, .int pl, .int x96, .ref lb, .ref tb, .ref yb, .ref sb, .int nf, .ref rb, .ref nr, .int rc, z13, z14, .int w96])), (ib, aB E (1500) (f)), (nr, aI E (180) (nf96))] _ _ _ _ _
          refine g_aload_n C dX4_read_102 1 rfl ?_
          refine gf_X4_91 C 5 rfl rfl dX4_read_103 ?_
          refine g_if_ne C 143 dX4_read_106 (by decide) (fun c106 => ?_) (fun c106 => ?_)
          · replace e96 : _ ∧ _ := ⟨e96.elim (fun a => a.1) (fun a => absurd a.1 c106), bl1 e96 c106⟩
            obtain ⟨e96a, e96b, rfl, e96d⟩ := e96
            have e96 : x96.toInt = 1 ∧ wRec (lk f P) (rdA (lk f P)) = -1 ∧ w96 = w96 ∧ RW (lk f P) nf96 (rCnt (lk f P)) := ⟨e96a, e96b, rfl, e96d⟩
            refine g_aload_n C dX4_read_143 1 rfl ?_
            refine g_callV C r mv_X4_98 dX4_read_144 (c_X4_keep g.l E m ib lb tb sb yb rb nr f lf tf sf yf rf nf96 sz pl nf rc w96 S P (rdA (lk f P)) (.int x1) (.int x96) (z13) (z14) hS hP hPS hSm (by omega) (by omega) e96.2.1 e96.2.2.2 hBF) (wr := []) (As := []) (rest := []) (Spl.at [] [5, 6, 0, 1, 2, 3, 4, 7] rfl rfl rfl) 0 rfl rfl rfl rfl (Nat.le_of_ble_eq_true rfl) (by decide) (Nat.le_refl _) (Nat.le_refl _) (fun v w h => ?_)
            obtain ⟨rfl, nfK, rcK, lfK, tfK, sfK, yfK, rfK, k1, k2, k3, k4, k5, rfl⟩ := h
            change G E g [(m, .inr (6, [.int x1, .ref ib, .int sz, .int pl, .int x96, .ref lb, .ref tb, .ref yb, .ref sb, .int nfK, .ref rb, .ref nr, .int rcK, z13, z14, .int w96])), (ib, aB E (1500) (f)), (lb, aB E (24) (lfK)), (tb, aI E (60) (tfK)), (sb, aI E (60) (sfK)), (yb, aB E (114000) (yfK)), (rb, aI E (180) (rfK)), (nr, aI E (180) (nf96))] _ _ _ _ []
            refine g_aload_n C dX4_read_147 1 rfl ?_
            refine g_dup C dX4_read_148 rfl ?_
            refine gf_X4_44 C 0 rfl rfl dX4_read_149 ?_
            refine g_iload_n C dX4_read_152 0 rfl ?_
            refine g_iadd C dX4_read_153 (by omega) (fun x153 e153 => ?_)
            refine gp_X4_44 C 0 rfl (Nat.le_of_ble_eq_true rfl) rfl rfl dX4_read_154 ?_
            change G E g [(m, .inr (6, [.int x1, .ref ib, .int sz, .int x153, .int x96, .ref lb, .ref tb, .ref yb, .ref sb, .int nfK, .ref rb, .ref nr, .int rcK, z13, z14, .int w96])), (ib, aB E (1500) (f)), (lb, aB E (24) (lfK)), (tb, aI E (60) (tfK)), (sb, aI E (60) (sfK)), (yb, aB E (114000) (yfK)), (rb, aI E (180) (rfK)), (nr, aI E (180) (nf96))] _ _ _ _ _
            refine g_iconst C dX4_read_157 (by decide) (fun x157 e157 => ?_)
            exact g_iret C F dX4_read_158 rfl rfl (Nat.le_refl _) (Nat.le_refl _) (by obtain ⟨h1, h2, h3⟩ := rd_4 (b := lk f P) (S := S) (P := P) (by omega) hT (by omega) e96.2.1; exact ⟨_, _, _, _, _, _, _, _, _, _, _, _, _, rfl, e1, by omega, by omega, Or.inr (Or.inr ⟨h1, e96.2.1, by omega, by omega, by omega, k1, k2, fun j hj => by rw [k3]; exact if_pos hj, k4, RW_ext e96.2.2.2 k5⟩), rfl⟩)
          · replace e96 := bl0 e96 c106
            have hrr := fRow_rng_rec hb8 (rdA (lk f P)) (by omega)
            have J133 : ∀ (z : Int32) (hz : z.toInt = ((if wRec (lk f P) (rdA (lk f P)) = (rdA (lk f P) : Int) - 1 then S else P + rdA (lk f P) : Nat) : Int)), G E g [(m, .inr (6, [.int x1, .ref ib, .int sz, .int pl, .int x96, .ref lb, .ref tb, .ref yb, .ref sb, .int nf, .ref rb, .ref nr, .int rc, z13, z14, .int w96])), (ib, aB E (1500) (f)), (lb, aB E (24) (lf)), (tb, aI E (60) (tf)), (sb, aI E (60) (sf)), (yb, aB E (114000) (yf)), (rb, aI E (180) (rf)), (nr, aI E (180) (nf96))] 0 0 133 [(0, .ref m), (1, .int x53)] [.int z, .ref m] := by
              intro z hz
              refine gp_X4_44 C 0 rfl (Nat.le_of_ble_eq_true rfl) rfl rfl dX4_read_133 ?_
              change G E g [(m, .inr (6, [.int x1, .ref ib, .int sz, .int z, .int x96, .ref lb, .ref tb, .ref yb, .ref sb, .int nf, .ref rb, .ref nr, .int rc, z13, z14, .int w96])), (ib, aB E (1500) (f)), (lb, aB E (24) (lf)), (tb, aI E (60) (tf)), (sb, aI E (60) (sf)), (yb, aB E (114000) (yf)), (rb, aI E (180) (rf)), (nr, aI E (180) (nf96))] _ _ _ _ _
              refine g_iconst C dX4_read_136 (by decide) (fun x136 e136 => ?_)
              refine g_aload_n C dX4_read_137 0 rfl ?_
              refine gf_X4_47 C 0 rfl rfl dX4_read_138 ?_
              refine g_isub C dX4_read_141 (by omega) (fun x141 e141 => ?_)
              exact g_iret C F dX4_read_142 rfl rfl (Nat.le_refl _) (Nat.le_refl _) (by obtain ⟨h1, h2, h3⟩ := rd_3 (b := lk f P) (S := S) (P := P) (by omega) hT (by omega) (by omega); exact ⟨_, _, _, _, _, _, _, _, _, _, _, _, _, rfl, e1, by omega, by rw [h3]; exact hz, Or.inr (Or.inl ⟨h1, by omega, rfl, rfl, rfl⟩), rfl⟩)
            refine g_aload_n C dX4_read_109 1 rfl ?_
            refine g_aload_n C dX4_read_110 1 rfl ?_
            refine gf_X4_47 C 5 rfl rfl dX4_read_111 ?_
            refine g_iload_n C dX4_read_114 0 rfl ?_
            refine g_iconst C dX4_read_115 (by decide) (fun x115 e115 => ?_)
            refine g_isub C dX4_read_116 (by omega) (fun x116 e116 => ?_)
            refine g_icmp_ne C 127 dX4_read_117 (by decide) (fun c117 => ?_) (fun c117 => ?_)
            · refine g_aload_n C dX4_read_127 1 rfl ?_
              refine gf_X4_44 C 5 rfl rfl dX4_read_128 ?_
              refine g_iload_n C dX4_read_131 0 rfl ?_
              refine g_iadd C dX4_read_132 (by omega) (fun x132 e132 => ?_)
              refine g_lv [1, 0] (lv' := [(0, .ref m), (1, .int x53)]) rfl ?_
              refine g_perm [5, 6, 0, 1, 2, 3, 4, 7] rfl (ws' := [(m, .inr (6, [.int x1, .ref ib, .int sz, .int pl, .int x96, .ref lb, .ref tb, .ref yb, .ref sb, .int nf, .ref rb, .ref nr, .int rc, z13, z14, .int w96])), (ib, aB E (1500) (f)), (lb, aB E (24) (lf)), (tb, aI E (60) (tf)), (sb, aI E (60) (sf)), (yb, aB E (114000) (yf)), (rb, aI E (180) (rf)), (nr, aI E (180) (nf96))]) rfl ?_
              exact J133 (x132) (by rw [if_neg (by omega)]; omega)
            · refine g_aload_n C dX4_read_120 1 rfl ?_
              refine gf_X4_41 C 5 rfl rfl dX4_read_121 ?_
              refine g_goto C 133 dX4_read_124 (by decide) ?_
              refine g_lv [1, 0] (lv' := [(0, .ref m), (1, .int x53)]) rfl ?_
              refine g_perm [5, 6, 0, 1, 2, 3, 4, 7] rfl (ws' := [(m, .inr (6, [.int x1, .ref ib, .int sz, .int pl, .int x96, .ref lb, .ref tb, .ref yb, .ref sb, .int nf, .ref rb, .ref nr, .int rc, z13, z14, .int w96])), (ib, aB E (1500) (f)), (lb, aB E (24) (lf)), (tb, aI E (60) (tf)), (sb, aI E (60) (sf)), (yb, aB E (114000) (yf)), (rb, aI E (180) (rf)), (nr, aI E (180) (nf96))]) rfl ?_
              exact J133 (sz) (by rw [if_pos (by omega)]; omega)
        · refine g_iconst C dX4_read_91 (by decide) (fun x91 e91 => ?_)
          refine g_perm [6, 7, 0, 1, 2, 3, 4, 5] rfl (ws' := [(m, .inr (6, [.int x1, .ref ib, .int sz, .int pl, .int te, .ref lb, .ref tb, .ref yb, .ref sb, .int nf, .ref rb, .ref nr, .int rc, z13, z14, .int w24])), (ib, aB E (1500) (f)), (lb, aB E (24) (lf)), (tb, aI E (60) (tf)), (sb, aI E (60) (sf)), (yb, aB E (114000) (yf)), (rb, aI E (180) (rf)), (nr, aI E (180) (nrf))]) rfl ?_
          exact g_iret C F dX4_read_92 rfl rfl (Nat.le_refl _) (Nat.le_refl _) (by obtain ⟨h1, h2, h3⟩ := rd_2 (b := lk f P) (S := S) (P := P) (by omega) hT (by omega); exact ⟨_, _, _, _, _, _, _, _, _, _, _, _, _, rfl, e1, by omega, by omega, Or.inl ⟨h1, rfl, rfl, rfl, rfl, rfl, rfl, rfl, rfl⟩, rfl⟩)
      · refine g_aload_n C dX4_read_63 1 rfl ?_
        refine g_iconst C dX4_read_64 (by decide) (fun x64 e64 => ?_)
        refine gp_X4_91 C 6 rfl (Nat.le_of_ble_eq_true rfl) (nz_b x64 (by omega)) (fz_b x64 (by omega)) dX4_read_65 ?_
        change G E g [(lb, aB E (24) (lf)), (tb, aI E (60) (tf)), (sb, aI E (60) (sf)), (yb, aB E (114000) (yf)), (rb, aI E (180) (rf)), (nr, aI E (180) (nrf)), (m, .inr (6, [.int x1, .ref ib, .int sz, .int pl, .int x64, .ref lb, .ref tb, .ref yb, .ref sb, .int nf, .ref rb, .ref nr, .int rc, z13, z14, .int w24])), (ib, aB E (1500) (f))] _ _ _ _ _
        refine g_aload_n C dX4_read_68 1 rfl ?_
        refine g_aload_n C dX4_read_69 1 rfl ?_
        refine gf_X4_41 C 6 rfl rfl dX4_read_70 ?_
        refine gp_X4_44 C 6 rfl (Nat.le_of_ble_eq_true rfl) rfl rfl dX4_read_73 ?_
        change G E g [(lb, aB E (24) (lf)), (tb, aI E (60) (tf)), (sb, aI E (60) (sf)), (yb, aB E (114000) (yf)), (rb, aI E (180) (rf)), (nr, aI E (180) (nrf)), (m, .inr (6, [.int x1, .ref ib, .int sz, .int sz, .int x64, .ref lb, .ref tb, .ref yb, .ref sb, .int nf, .ref rb, .ref nr, .int rc, z13, z14, .int w24])), (ib, aB E (1500) (f))] _ _ _ _ _
        refine g_iconst C dX4_read_76 (by decide) (fun x76 e76 => ?_)
        refine g_perm [6, 7, 0, 1, 2, 3, 4, 5] rfl (ws' := [(m, .inr (6, [.int x1, .ref ib, .int sz, .int sz, .int x64, .ref lb, .ref tb, .ref yb, .ref sb, .int nf, .ref rb, .ref nr, .int rc, z13, z14, .int w24])), (ib, aB E (1500) (f)), (lb, aB E (24) (lf)), (tb, aI E (60) (tf)), (sb, aI E (60) (sf)), (yb, aB E (114000) (yf)), (rb, aI E (180) (rf)), (nr, aI E (180) (nrf))]) rfl ?_
        exact g_iret C F dX4_read_77 rfl rfl (Nat.le_refl _) (Nat.le_refl _) (by have hT := wTot_b (b := lk f P) hnd (by omega); obtain ⟨h1, h2, h3⟩ := rd_1 (b := lk f P) (S := S) (P := P) (by omega) (by omega); exact ⟨_, _, _, _, _, _, _, _, _, _, _, _, _, rfl, e1, by omega, by omega, Or.inr (Or.inl ⟨h1, by omega, rfl, rfl, rfl⟩), rfl⟩)
    · replace e24 := bl0 e24 c27
      have hnr := nD_rng (lk f P) 0 5
      refine g_aload_n C dX4_read_30 0 rfl ?_
      refine g_iconst C dX4_read_31 (by decide) (fun x31 e31 => ?_)
      refine gp_X4_91 C 6 rfl (Nat.le_of_ble_eq_true rfl) (nz_b x31 (by omega)) (fz_b x31 (by omega)) dX4_read_32 ?_
      change G E g [(lb, aB E (24) (lf)), (tb, aI E (60) (tf)), (sb, aI E (60) (sf)), (yb, aB E (114000) (yf)), (rb, aI E (180) (rf)), (nr, aI E (180) (nrf)), (m, .inr (6, [.int x1, .ref ib, .int sz, .int pl, .int x31, .ref lb, .ref tb, .ref yb, .ref sb, .int nf, .ref rb, .ref nr, .int rc, z13, z14, .int w24])), (ib, aB E (1500) (f))] _ _ _ _ _
      refine g_aload_n C dX4_read_35 0 rfl ?_
      refine g_aload_n C dX4_read_36 0 rfl ?_
      refine gf_X4_41 C 6 rfl rfl dX4_read_37 ?_
      refine gp_X4_44 C 6 rfl (Nat.le_of_ble_eq_true rfl) rfl rfl dX4_read_40 ?_
      change G E g [(lb, aB E (24) (lf)), (tb, aI E (60) (tf)), (sb, aI E (60) (sf)), (yb, aB E (114000) (yf)), (rb, aI E (180) (rf)), (nr, aI E (180) (nrf)), (m, .inr (6, [.int x1, .ref ib, .int sz, .int sz, .int x31, .ref lb, .ref tb, .ref yb, .ref sb, .int nf, .ref rb, .ref nr, .int rc, z13, z14, .int w24])), (ib, aB E (1500) (f))] _ _ _ _ _
      refine g_iconst C dX4_read_43 (by decide) (fun x43 e43 => ?_)
      refine g_aload_n C dX4_read_44 0 rfl ?_
      refine gf_X4_47 C 6 rfl rfl dX4_read_45 ?_
      refine g_isub C dX4_read_48 (by omega) (fun x48 e48 => ?_)
      refine g_perm [6, 7, 0, 1, 2, 3, 4, 5] rfl (ws' := [(m, .inr (6, [.int x1, .ref ib, .int sz, .int sz, .int x31, .ref lb, .ref tb, .ref yb, .ref sb, .int nf, .ref rb, .ref nr, .int rc, z13, z14, .int w24])), (ib, aB E (1500) (f)), (lb, aB E (24) (lf)), (tb, aI E (60) (tf)), (sb, aI E (60) (sf)), (yb, aB E (114000) (yf)), (rb, aI E (180) (rf)), (nr, aI E (180) (nrf))]) rfl ?_
      exact g_iret C F dX4_read_49 rfl rfl (Nat.le_refl _) (Nat.le_refl _) (by have hT := wTot_a (b := lk f P) (by omega); obtain ⟨h1, h2, h3⟩ := rd_1 (b := lk f P) (S := S) (P := P) (by omega) (by omega); exact ⟨_, _, _, _, _, _, _, _, _, _, _, _, _, rfl, e1, by omega, by omega, Or.inr (Or.inl ⟨h1, by omega, rfl, rfl, rfl⟩), rfl⟩)
  · refine g_iconst C dX4_read_19 (by decide) (fun x19 e19 => ?_)
    exact g_iret C F dX4_read_20 rfl rfl (Nat.le_refl _) (Nat.le_refl _) (by obtain ⟨h1, h2, h3⟩ := rd_0 (b := lk f P) (S := S) (P := P) (by omega); exact ⟨_, _, _, _, _, _, _, _, _, _, _, _, _, rfl, e1, by omega, by omega, Or.inl ⟨h1, rfl, rfl, rfl, rfl, rfl, rfl, rfl, rfl⟩, rfl⟩)
