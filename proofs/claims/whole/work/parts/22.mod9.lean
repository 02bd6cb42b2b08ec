set_option maxHeartbeats 6000000 in
set_option maxRecDepth 10000 in
theorem c_X4_write (l : Launch) (E : GE) (m lb tb sb yb wb : Nat) (lf wf : Nat → Int32) (tf sf yf : Nat → Int32) (te nf : Int32) (fl : FL) (t0 wz : Int32) (o : List Nat) (z1 z2 z3 z10 z11 z12 z15 : Value) (hM : MPr te nf tf sf yf fl) (hF : FW fl) (hwz : wz.toInt = (o.length : Int)) (hB : Bs wf 0 o) : Ctr l E yX4_write cX4_write 7 (some .int) 2 (0) (0) [.ref m] [(m, .inr (6, [.int t0, z1, z2, z3, .int te, .ref lb, .ref tb, .ref yb, .ref sb, .int nf, z10, z11, z12, .ref wb, .int wz, z15])), (lb, aB E (24) (lf)), (tb, aI E (60) (tf)), (sb, aI E (60) (sf)), (yb, aB E (114000) (yf)), (wb, aB E (115000) (wf))] (fun v w => ∃ (r t wz2 : Int32) (wf2 : Nat → Int32), v = some (.int r) ∧ t.toInt = 0 ∧ (((te.toInt ≠ 0 ∧ cn fl fl.length = true) ∧ r.toInt = ((frm lf fl).length : Int) ∧ wz2.toInt = ((frm lf fl).length : Int) ∧ Bs wf2 0 (frm lf fl)) ∨ (¬ (te.toInt ≠ 0 ∧ cn fl fl.length = true) ∧ r.toInt = -1 ∧ wz2 = wz ∧ wf2 = wf)) ∧ w = [(m, .inr (6, [.int t, z1, z2, z3, .int te, .ref lb, .ref tb, .ref yb, .ref sb, .int nf, z10, z11, z12, .ref wb, .int wz2, z15])), (lb, aB E (24) (lf)), (tb, aI E (60) (tf)), (sb, aI E (60) (sf)), (yb, aB E (114000) (yf)), (wb, aB E (115000) (wf2))]) := by
  refine Ctr.intro (by decide) (Nat.le_of_ble_eq_true rfl) (fun g hgl hN C r F hi => ?_)
  subst hgl
  have hte := hM.te
  have hin : te.toInt ≠ 0 → nf.toInt = (fl.length : Int) := fun h => (hM.in h).1
  have hno := hM.no
  have hnf := hM.nf hF
  have hfl := hF.1
  have hst := stt_le hF fl.length (Nat.le_refl _)
  have hbas : bas fl = 25 + 12 * fl.length := rfl
  have hall : alls fl = bas fl + 1 + stt fl fl.length := rfl
  change G E g [(m, .inr (6, [.int t0, z1, z2, z3, .int te, .ref lb, .ref tb, .ref yb, .ref sb, .int nf, z10, z11, z12, .ref wb, .int wz, z15])), (lb, aB E (24) (lf)), (tb, aI E (60) (tf)), (sb, aI E (60) (sf)), (yb, aB E (114000) (yf)), (wb, aB E (115000) (wf))] 0 0 0 [(0, .ref m)] []
  refine g_aload_n C dX4_write_0 0 rfl ?_
  refine g_iconst C dX4_write_1 (by decide) (fun x1 e1 => ?_)
  refine gp_X4_37 C 0 rfl (Nat.le_of_ble_eq_true rfl) rfl rfl dX4_write_2 ?_
  change G E g [(m, .inr (6, [.int x1, z1, z2, z3, .int te, .ref lb, .ref tb, .ref yb, .ref sb, .int nf, z10, z11, z12, .ref wb, .int wz, z15])), (lb, aB E (24) (lf)), (tb, aI E (60) (tf)), (sb, aI E (60) (sf)), (yb, aB E (114000) (yf)), (wb, aB E (115000) (wf))] _ _ _ _ _
  refine g_aload_n C dX4_write_5 0 rfl ?_
  refine gf_X4_91 C 0 rfl rfl dX4_write_6 ?_
  refine g_istore_n C dX4_write_9 (by rw [hN]; decide) (lv' := [(1, .int te), (0, .ref m)]) rfl ?_
  refine g_bipush C dX4_write_10 (by decide) (fun x10 e10 => ?_)
  refine g_bipush C dX4_write_12 (by decide) (fun x12 e12 => ?_)
  refine g_aload_n C dX4_write_14 1 rfl ?_
  refine gf_X4_88 C 0 rfl rfl dX4_write_15 ?_
  refine g_imul C dX4_write_18 (12 * nf.toInt) (by rw [e12]) (by omega) (fun x18 e18 => ?_)
  refine g_iadd C dX4_write_19 (by omega) (fun x19 e19 => ?_)
  refine g_istore_n C dX4_write_20 (by rw [hN]; decide) (lv' := [(2, .int x19), (1, .int te), (0, .ref m)]) rfl ?_
  refine g_iload_n C dX4_write_21 0 rfl ?_
  refine g_iconst C dX4_write_22 (by decide) (fun x22 e22 => ?_)
  refine g_iadd C dX4_write_23 (by omega) (fun x23 e23 => ?_)
  refine g_istore_n C dX4_write_24 (by rw [hN]; decide) (lv' := [(3, .int x23), (2, .int x19), (1, .int te), (0, .ref m)]) rfl ?_
  refine g_iconst C dX4_write_25 (by decide) (fun x25 e25 => ?_)
  refine g_istore C dX4_write_26 (by rw [hN]; decide) (lv' := [(4, .int x25), (3, .int x23), (2, .int x19), (1, .int te), (0, .ref m)]) rfl ?_
  have loop28 : ∀ (nn : Nat) (n1 : Int32) (n3 : Int32) (n4 : Int32) (k : Nat) (hm : nf.toInt.toNat + 1 - k < nn) (hk : (k : Int) ≤ nf.toInt ∧ (te.toInt = 0 → k = 0)) (h4 : n4.toInt = (k : Int) + 1) (h3 : te.toInt ≠ 0 → n3.toInt = ((bas fl + 1 + stt fl k : Nat) : Int)) (h1 : (te.toInt = 0 ∧ n1.toInt = 0) ∨ (te.toInt = 1 ∧ n1.toInt = 1 ∧ cn fl k = true) ∨ (te.toInt = 1 ∧ n1.toInt = 0 ∧ cn fl k = false)), G E g [(m, .inr (6, [.int x1, z1, z2, z3, .int te, .ref lb, .ref tb, .ref yb, .ref sb, .int nf, z10, z11, z12, .ref wb, .int wz, z15])), (lb, aB E (24) (lf)), (tb, aI E (60) (tf)), (sb, aI E (60) (sf)), (yb, aB E (114000) (yf)), (wb, aB E (115000) (wf))] 0 0 28 [(0, .ref m), (1, .int n1), (2, .int x19), (3, .int n3), (4, .int n4)] [] := by
    intro nn
    induction nn with
    | zero => intro n1 n3 n4 k hm hk h4 h3 h1; omega
    | succ nn ih28 =>
      intro n1 n3 n4 k hm hk h4 h3 h1
      refine g_iload C dX4_write_28 4 rfl ?_
      refine g_aload_n C dX4_write_30 0 rfl ?_
      refine gf_X4_88 C 0 rfl rfl dX4_write_31 ?_
      refine g_icmp_gt C 114 dX4_write_34 (by decide) (fun c34 => ?_) (fun c34 => ?_)
      · refine g_iload_n C dX4_write_114 1 rfl ?_
        refine g_if_ne C 120 dX4_write_115 (by decide) (fun c115 => ?_) (fun c115 => ?_)
        · have hte1 : te.toInt = 1 := by omega
          have hnl := hin (by omega)
          have hkl : k = fl.length := by omega
          have hcn : cn fl fl.length = true := by rcases h1 with h | h | h; omega; rw [← hkl]; exact h.2.2; omega
          have hx126 : n3.toInt = (alls fl : Int) := by rw [h3 (by omega), hkl]; rfl
          have hx2 : x19.toInt = (bas fl : Int) := by omega
          obtain ⟨hn1, hMF⟩ := hM.in (by omega)
          clear h1 h3 hte hin hno hk h4 hm hnf hM ih28 c115 e10 e12 e18 e19 e22 e23 e25
          refine g_aload_n C dX4_write_120 0 rfl ?_
          refine g_iconst C dX4_write_121 (by decide) (fun x121 e121 => ?_)
          refine gp_X4_118 C 0 rfl (Nat.le_of_ble_eq_true rfl) rfl rfl dX4_write_122 ?_
          change G E g [(m, .inr (6, [.int x1, z1, z2, z3, .int te, .ref lb, .ref tb, .ref yb, .ref sb, .int nf, z10, z11, z12, .ref wb, .int x121, z15])), (lb, aB E (24) (lf)), (tb, aI E (60) (tf)), (sb, aI E (60) (sf)), (yb, aB E (114000) (yf)), (wb, aB E (115000) (wf))] _ _ _ _ _
          have e121n : x121.toInt = (([] : List Nat).length : Int) := by rw [e121]; rfl
          clear e121
          refine g_aload_n C dX4_write_125 0 rfl ?_
          refine g_iload_n C dX4_write_126 3 rfl ?_
          refine g_iconst C dX4_write_127 (by decide) (fun x127 e127 => ?_)
          refine g_callV C r mv_X4_125 dX4_write_128 (c_X4_sayNumber g.l E m wb wf x121 ([]) (.int x1) (z1) (z2) (z3) (.int te) (.ref lb) (.ref tb) (.ref yb) (.ref sb) (.int nf) (z10) (z11) (z12) (z15) n3 x127 (alls fl) 5 e121n (Bs_nil _ _) hx126 (by omega) (by omega) (by first | omega | (simp only [List.length_append, List.length_cons, List.length_nil, dg_len, drN_len, fdN_len, ldL_19]; omega))) (wr := [(lb, aB E (24) (lf)), (tb, aI E (60) (tf)), (sb, aI E (60) (sf)), (yb, aB E (114000) (yf))]) (As := [.int n3, .int x127]) (rest := []) (Spl.at [1, 2, 3, 4] [0, 5] rfl rfl rfl) 0 rfl rfl rfl rfl (Nat.le_of_ble_eq_true rfl) (by decide) (Nat.le_refl _) (Nat.le_refl _) (fun v w h => ?_)
          obtain ⟨rfl, f128, s128, es128, eb128, rfl⟩ := h
          change G E g [(lb, aB E (24) (lf)), (tb, aI E (60) (tf)), (sb, aI E (60) (sf)), (yb, aB E (114000) (yf)), (m, .inr (6, [.int x1, z1, z2, z3, .int te, .ref lb, .ref tb, .ref yb, .ref sb, .int nf, z10, z11, z12, .ref wb, .int s128, z15])), (wb, aB E (115000) (f128))] _ _ _ _ []
          refine g_iconst C dX4_write_131 (by decide) (fun x131 e131 => ?_)
          refine g_istore C dX4_write_132 (by rw [hN]; decide) (lv' := [(4, .int x131), (0, .ref m), (1, .int n1), (2, .int x19), (3, .int n3)]) rfl ?_
          have loop134 : ∀ (nn : Nat) (n4 : Int32) (zk : Int32) (fk : Nat → Int32) (n : Nat) (hm : 19 - n < nn) (hn : n ≤ 19) (h4n : n4.toInt = (n : Int) + 5) (hz : zk.toInt = ((ldL lf (alls fl) (bas fl) n).length : Int)) (hb : Bs fk 0 (ldL lf (alls fl) (bas fl) n)), G E g [(m, .inr (6, [.int x1, z1, z2, z3, .int te, .ref lb, .ref tb, .ref yb, .ref sb, .int nf, z10, z11, z12, .ref wb, .int zk, z15])), (lb, aB E (24) (lf)), (tb, aI E (60) (tf)), (sb, aI E (60) (sf)), (yb, aB E (114000) (yf)), (wb, aB E (115000) (fk))] 0 0 134 [(0, .ref m), (2, .int x19), (4, .int n4)] [] := by
            intro nn
            induction nn with
            | zero => intro n4 zk fk n hm hn h4n hz hb; omega
            | succ nn ih134 =>
              intro n4 zk fk n hm hn h4n hz hb
              have hll := ldL_len lf (alls fl) (bas fl) n
              have hif : (if n + 5 = 12 then dg (bas fl) 5 else []).length ≤ 5 := by split <;> simp [dg_len]
              refine g_iload C dX4_write_134 2 rfl ?_
              refine g_bipush C dX4_write_136 (by decide) (fun x136 e136 => ?_)
              refine g_icmp_ge C 228 dX4_write_138 (by decide) (fun c138 => ?_) (fun c138 => ?_)
              · obtain rfl : n = 19 := by omega
                refine g_iconst C dX4_write_228 (by decide) (fun x228 e228 => ?_)
                refine g_istore C dX4_write_229 (by rw [hN]; decide) (lv' := [(4, .int x228), (0, .ref m), (2, .int x19)]) rfl ?_
                refine g_iconst C dX4_write_231 (by decide) (fun x231 e231 => ?_)
                refine g_istore C dX4_write_232 (by rw [hN]; decide) (lv' := [(5, .int x231), (4, .int x228), (0, .ref m), (2, .int x19)]) rfl ?_
                have loop234 : ∀ (nn : Nat) (n4s : Int32) (n5 : Int32) (zk : Int32) (fk : Nat → Int32) (k : Nat) (hm : fl.length + 1 - k < nn) (hk : k ≤ fl.length) (h5 : n5.toInt = (k : Int) + 1) (hs : n4s.toInt = (stt fl k : Int)) (hz : zk.toInt = (((ldL lf (alls fl) (bas fl) 19) ++ drN fl k).length : Int)) (hb : Bs fk 0 ((ldL lf (alls fl) (bas fl) 19) ++ drN fl k)), G E g [(m, .inr (6, [.int x1, z1, z2, z3, .int te, .ref lb, .ref tb, .ref yb, .ref sb, .int nf, z10, z11, z12, .ref wb, .int zk, z15])), (lb, aB E (24) (lf)), (tb, aI E (60) (tf)), (sb, aI E (60) (sf)), (yb, aB E (114000) (yf)), (wb, aB E (115000) (fk))] 0 0 234 [(0, .ref m), (4, .int n4s), (5, .int n5)] [] := by
                  intro nn
                  induction nn with
                  | zero => intro n4s n5 zk fk k hm hk h5 hs hz hb; omega
                  | succ nn ih234 =>
                    intro n4s n5 zk fk k hm hk h5 hs hz hb
                    have hsk := stt_mono fl hk
                    refine g_iload C dX4_write_234 2 rfl ?_
                    refine g_aload_n C dX4_write_236 0 rfl ?_
                    refine gf_X4_88 C 0 rfl rfl dX4_write_237 ?_
                    refine g_icmp_gt C 302 dX4_write_240 (by decide) (fun c240 => ?_) (fun c240 => ?_)
                    · obtain rfl : k = fl.length := by omega
                      have hz305 := hz
                      have hb305 := hb
                      refine g_aload_n C dX4_write_302 0 rfl ?_
                      refine g_bipush C dX4_write_303 (by decide) (fun x303 e303 => ?_)
                      refine g_callV C r mv_X4_121 dX4_write_305 (c_X4_say g.l E m wb fk zk ((ldL lf (alls fl) (bas fl) 19) ++ drN fl fl.length) (.int x1) (z1) (z2) (z3) (.int te) (.ref lb) (.ref tb) (.ref yb) (.ref sb) (.int nf) (z10) (z11) (z12) (z15) x303 hz305 hb305 (by first | omega | (simp only [List.length_append, List.length_cons, List.length_nil, dg_len, drN_len, fdN_len, ldL_19]; omega))) (wr := [(lb, aB E (24) (lf)), (tb, aI E (60) (tf)), (sb, aI E (60) (sf)), (yb, aB E (114000) (yf))]) (As := [.int x303]) (rest := []) (Spl.at [1, 2, 3, 4] [0, 5] rfl rfl rfl) 0 rfl rfl rfl rfl (Nat.le_of_ble_eq_true rfl) (by decide) (Nat.le_refl _) (Nat.le_refl _) (fun v w h => ?_)
                      obtain ⟨rfl, f305, s305, es305, eb305, rfl⟩ := h
                      change G E g [(lb, aB E (24) (lf)), (tb, aI E (60) (tf)), (sb, aI E (60) (sf)), (yb, aB E (114000) (yf)), (m, .inr (6, [.int x1, z1, z2, z3, .int te, .ref lb, .ref tb, .ref yb, .ref sb, .int nf, z10, z11, z12, .ref wb, .int s305, z15])), (wb, aB E (115000) (f305))] _ _ _ _ []
                      rw [u8_of (n := 30) e303 (by omega)] at es305 eb305
                      refine g_iconst C dX4_write_308 (by decide) (fun x308 e308 => ?_)
                      refine g_istore C dX4_write_309 (by rw [hN]; decide) (lv' := [(5, .int x308), (0, .ref m), (4, .int n4s)]) rfl ?_
                      have loop311 : ∀ (nn : Nat) (n5 : Int32) (zk : Int32) (fk : Nat → Int32) (k : Nat) (hm : fl.length + 1 - k < nn) (hk : k ≤ fl.length) (h5 : n5.toInt = (k : Int) + 1) (hz : zk.toInt = ((((ldL lf (alls fl) (bas fl) 19) ++ drN fl fl.length ++ [30]) ++ fdN fl k).length : Int)) (hb : Bs fk 0 (((ldL lf (alls fl) (bas fl) 19) ++ drN fl fl.length ++ [30]) ++ fdN fl k)), G E g [(m, .inr (6, [.int x1, z1, z2, z3, .int te, .ref lb, .ref tb, .ref yb, .ref sb, .int nf, z10, z11, z12, .ref wb, .int zk, z15])), (lb, aB E (24) (lf)), (tb, aI E (60) (tf)), (sb, aI E (60) (sf)), (yb, aB E (114000) (yf)), (wb, aB E (115000) (fk))] 0 0 311 [(0, .ref m), (5, .int n5)] [] := by
                        intro nn
                        induction nn with
                        | zero => intro n5 zk fk k hm hk h5 hz hb; omega
                        | succ nn ih311 =>
                          intro n5 zk fk k hm hk h5 hz hb
                          have hsk := stt_mono fl hk
                          refine g_iload C dX4_write_311 1 rfl ?_
                          refine g_aload_n C dX4_write_313 0 rfl ?_
                          refine gf_X4_88 C 0 rfl rfl dX4_write_314 ?_
                          refine g_icmp_gt C 367 dX4_write_317 (by decide) (fun c317 => ?_) (fun c317 => ?_)
                          · obtain rfl : k = fl.length := by omega
                            have hz370 := hz
                            have hb370 := hb
                            refine g_aload_n C dX4_write_367 0 rfl ?_
                            refine g_bipush C dX4_write_368 (by decide) (fun x368 e368 => ?_)
                            refine g_callV C r mv_X4_121 dX4_write_370 (c_X4_say g.l E m wb fk zk (((ldL lf (alls fl) (bas fl) 19) ++ drN fl fl.length ++ [30]) ++ fdN fl fl.length) (.int x1) (z1) (z2) (z3) (.int te) (.ref lb) (.ref tb) (.ref yb) (.ref sb) (.int nf) (z10) (z11) (z12) (z15) x368 hz370 hb370 (by first | omega | (simp only [List.length_append, List.length_cons, List.length_nil, dg_len, drN_len, fdN_len, ldL_19]; omega))) (wr := [(lb, aB E (24) (lf)), (tb, aI E (60) (tf)), (sb, aI E (60) (sf)), (yb, aB E (114000) (yf))]) (As := [.int x368]) (rest := []) (Spl.at [1, 2, 3, 4] [0, 5] rfl rfl rfl) 0 rfl rfl rfl rfl (Nat.le_of_ble_eq_true rfl) (by decide) (Nat.le_refl _) (Nat.le_refl _) (fun v w h => ?_)
                            obtain ⟨rfl, f370, s370, es370, eb370, rfl⟩ := h
                            change G E g [(lb, aB E (24) (lf)), (tb, aI E (60) (tf)), (sb, aI E (60) (sf)), (yb, aB E (114000) (yf)), (m, .inr (6, [.int x1, z1, z2, z3, .int te, .ref lb, .ref tb, .ref yb, .ref sb, .int nf, z10, z11, z12, .ref wb, .int s370, z15])), (wb, aB E (115000) (f370))] _ _ _ _ []
                            rw [u8_of (n := 29) e368 (by omega)] at es370 eb370
                            refine g_aload_n C dX4_write_373 0 rfl ?_
                            refine gf_X4_118 C 4 rfl rfl dX4_write_374 ?_
                            refine g_perm [4, 0, 1, 2, 3, 5] rfl (ws' := [(m, .inr (6, [.int x1, z1, z2, z3, .int te, .ref lb, .ref tb, .ref yb, .ref sb, .int nf, z10, z11, z12, .ref wb, .int s370, z15])), (lb, aB E (24) (lf)), (tb, aI E (60) (tf)), (sb, aI E (60) (sf)), (yb, aB E (114000) (yf)), (wb, aB E (115000) (f370))]) rfl ?_
                            exact g_iret C F dX4_write_377 rfl rfl (Nat.le_refl _) (Nat.le_refl _) (by exact ⟨_, _, _, _, rfl, e1, Or.inl ⟨⟨by omega, hcn⟩, es370, es370, eb370⟩, rfl⟩)
                          · obtain ⟨hT, hL, hBs⟩ := hMF k (by omega)
                            obtain ⟨hW1, hW2, hW3, hW4, hW5⟩ := hF.2 k (by omega)
                            have hsk1 := stt_mono fl (m := k + 1) (n := fl.length) (by omega)
                            simp only [stt] at hsk1
                            refine g_iconst C dX4_write_320 (by decide) (fun x320 e320 => ?_)
                            refine g_istore C dX4_write_321 (by rw [hN]; decide) (lv' := [(6, .int x320), (0, .ref m), (5, .int n5)]) rfl ?_
                            have loop323 : ∀ (nn : Nat) (n6 : Int32) (zj : Int32) (fj : Nat → Int32) (j : Nat) (hm : (fB fl k).length - j < nn) (hj : j ≤ (fB fl k).length) (h6 : n6.toInt = (j : Int)) (hzj : zj.toInt = ((((ldL lf (alls fl) (bas fl) 19) ++ drN fl fl.length ++ [30]) ++ fdN fl k ++ (fB fl k).take j).length : Int)) (hbj : Bs fj 0 (((ldL lf (alls fl) (bas fl) 19) ++ drN fl fl.length ++ [30]) ++ fdN fl k ++ (fB fl k).take j)), G E g [(m, .inr (6, [.int x1, z1, z2, z3, .int te, .ref lb, .ref tb, .ref yb, .ref sb, .int nf, z10, z11, z12, .ref wb, .int zj, z15])), (lb, aB E (24) (lf)), (tb, aI E (60) (tf)), (sb, aI E (60) (sf)), (yb, aB E (114000) (yf)), (wb, aB E (115000) (fj))] 0 0 323 [(0, .ref m), (5, .int n5), (6, .int n6)] [] := by
                              intro nn
                              induction nn with
                              | zero => intro n6 zj fj j hm hj h6 hzj hbj; omega
                              | succ nn ih323 =>
                                intro n6 zj fj j hm hj h6 hzj hbj
                                have htk : ((fB fl k).take j).length ≤ (fB fl k).length := by rw [List.length_take]; exact Nat.min_le_right _ _
                                refine g_iload C dX4_write_323 2 rfl ?_
                                refine g_aload_n C dX4_write_325 0 rfl ?_
                                refine gf_X4_24 C 0 rfl rfl dX4_write_326 ?_
                                refine g_iload C dX4_write_329 1 rfl ?_
                                refine g_iconst C dX4_write_331 (by decide) (fun x331 e331 => ?_)
                                refine g_isub C dX4_write_332 (by omega) (fun x332 e332 => ?_)
                                refine g_iaload C 3 rfl dX4_write_333 (k) (by omega) (by omega) (fun x333 e333 => ?_)
                                have t333 := congrArg Int32.toInt e333
                                refine g_icmp_ge C 355 dX4_write_334 (by decide) (fun c334 => ?_) (fun c334 => ?_)
                                · obtain rfl : j = (fB fl k).length := by omega
                                  rw [List.take_length] at hzj hbj
                                  have hz358 := hzj
                                  have hb358 := hbj
                                  refine g_aload_n C dX4_write_355 0 rfl ?_
                                  refine g_bipush C dX4_write_356 (by decide) (fun x356 e356 => ?_)
                                  refine g_callV C r mv_X4_121 dX4_write_358 (c_X4_say g.l E m wb fj zj (((ldL lf (alls fl) (bas fl) 19) ++ drN fl fl.length ++ [30]) ++ fdN fl k ++ fB fl k) (.int x1) (z1) (z2) (z3) (.int te) (.ref lb) (.ref tb) (.ref yb) (.ref sb) (.int nf) (z10) (z11) (z12) (z15) x356 hz358 hb358 (by first | omega | (simp only [List.length_append, List.length_cons, List.length_nil, dg_len, drN_len, fdN_len, ldL_19]; omega))) (wr := [(lb, aB E (24) (lf)), (tb, aI E (60) (tf)), (sb, aI E (60) (sf)), (yb, aB E (114000) (yf))]) (As := [.int x356]) (rest := []) (Spl.at [1, 2, 3, 4] [0, 5] rfl rfl rfl) 0 rfl rfl rfl rfl (Nat.le_of_ble_eq_true rfl) (by decide) (Nat.le_refl _) (Nat.le_refl _) (fun v w h => ?_)
                                  obtain ⟨rfl, f358, s358, es358, eb358, rfl⟩ := h
                                  change G E g [(lb, aB E (24) (lf)), (tb, aI E (60) (tf)), (sb, aI E (60) (sf)), (yb, aB E (114000) (yf)), (m, .inr (6, [.int x1, z1, z2, z3, .int te, .ref lb, .ref tb, .ref yb, .ref sb, .int nf, z10, z11, z12, .ref wb, .int s358, z15])), (wb, aB E (115000) (f358))] _ _ _ _ []
                                  rw [u8_of (n := 30) e356 (by omega)] at es358 eb358
                                  refine g_iinc C dX4_write_361 1 rfl (by rw [hN]; decide) (by decide) (by omega) (fun x361 e361 => ?_)
                                  refine g_lvE (lv' := [(5, .int x361), (0, .ref m), (6, .int n6)]) rfl ?_
                                  refine g_goto C 311 dX4_write_364 (by decide) ?_
                                  refine g_lv [1, 0] (lv' := [(0, .ref m), (5, .int x361)]) rfl ?_
                                  refine g_perm [4, 0, 1, 2, 3, 5] rfl (ws' := [(m, .inr (6, [.int x1, z1, z2, z3, .int te, .ref lb, .ref tb, .ref yb, .ref sb, .int nf, z10, z11, z12, .ref wb, .int s358, z15])), (lb, aB E (24) (lf)), (tb, aI E (60) (tf)), (sb, aI E (60) (sf)), (yb, aB E (114000) (yf)), (wb, aB E (115000) (f358))]) rfl ?_
                                  exact ih311 (x361) (s358) (f358) (k + 1) (by omega) (by omega) (by omega) (by rw [fdN_s]; exact es358) (by rw [fdN_s]; exact eb358)
                                · refine g_aload_n C dX4_write_337 0 rfl ?_
                                  refine g_aload_n C dX4_write_338 0 rfl ?_
                                  refine g_iload C dX4_write_339 1 rfl ?_
                                  refine g_iload C dX4_write_341 2 rfl ?_
                                  refine g_callV C r mv_X4_104 dX4_write_343 (c_X4_at g.l E m yb yf n5 n6 (k) (j) (.int x1) (z1) (z2) (z3) (.int te) (.ref lb) (.ref tb) (.ref sb) (.int nf) (z10) (z11) (z12) (.ref wb) (.int zj) (z15) (by omega) (by omega) (by omega) (by omega)) (wr := [(lb, aB E (24) (lf)), (tb, aI E (60) (tf)), (sb, aI E (60) (sf)), (wb, aB E (115000) (fj))]) (As := [.int n5, .int n6]) (rest := [.ref m]) (Spl.at [1, 2, 3, 5] [0, 4] rfl rfl rfl) 0 rfl rfl rfl rfl (Nat.le_of_ble_eq_true rfl) (by decide) (Nat.le_refl _) (Nat.le_refl _) (fun v w h => ?_)
                                  obtain ⟨x343, rfl, e343, rfl⟩ := h
                                  change G E g [(lb, aB E (24) (lf)), (tb, aI E (60) (tf)), (sb, aI E (60) (sf)), (wb, aB E (115000) (fj)), (m, .inr (6, [.int x1, z1, z2, z3, .int te, .ref lb, .ref tb, .ref yb, .ref sb, .int nf, z10, z11, z12, .ref wb, .int zj, z15])), (yb, aB E (114000) (yf))] _ _ _ _ [.int x343, .ref m]
                                  rw [Bs_at hBs hW2 (by omega)] at e343
                                  have u343 := u8_of e343 (B8_d hW2 j)
                                  refine g_callV C r mv_X4_121 dX4_write_346 (c_X4_say g.l E m wb fj zj (((ldL lf (alls fl) (bas fl) 19) ++ drN fl fl.length ++ [30]) ++ fdN fl k ++ (fB fl k).take j) (.int x1) (z1) (z2) (z3) (.int te) (.ref lb) (.ref tb) (.ref yb) (.ref sb) (.int nf) (z10) (z11) (z12) (z15) x343 hzj hbj (by first | omega | (simp only [List.length_append, List.length_cons, List.length_nil, dg_len, drN_len, fdN_len, ldL_19]; omega))) (wr := [(lb, aB E (24) (lf)), (tb, aI E (60) (tf)), (sb, aI E (60) (sf)), (yb, aB E (114000) (yf))]) (As := [.int x343]) (rest := []) (Spl.at [0, 1, 2, 5] [4, 3] rfl rfl rfl) 0 rfl rfl rfl rfl (Nat.le_of_ble_eq_true rfl) (by decide) (Nat.le_refl _) (Nat.le_refl _) (fun v w h => ?_)
                                  obtain ⟨rfl, f346, s346, es346, eb346, rfl⟩ := h
                                  change G E g [(lb, aB E (24) (lf)), (tb, aI E (60) (tf)), (sb, aI E (60) (sf)), (yb, aB E (114000) (yf)), (m, .inr (6, [.int x1, z1, z2, z3, .int te, .ref lb, .ref tb, .ref yb, .ref sb, .int nf, z10, z11, z12, .ref wb, .int s346, z15])), (wb, aB E (115000) (f346))] _ _ _ _ []
                                  refine g_iinc C dX4_write_349 2 rfl (by rw [hN]; decide) (by decide) (by omega) (fun x349 e349 => ?_)
                                  refine g_lvE (lv' := [(6, .int x349), (0, .ref m), (5, .int n5)]) rfl ?_
                                  refine g_goto C 323 dX4_write_352 (by decide) ?_
                                  refine g_lv [1, 2, 0] (lv' := [(0, .ref m), (5, .int n5), (6, .int x349)]) rfl ?_
                                  refine g_perm [4, 0, 1, 2, 3, 5] rfl (ws' := [(m, .inr (6, [.int x1, z1, z2, z3, .int te, .ref lb, .ref tb, .ref yb, .ref sb, .int nf, z10, z11, z12, .ref wb, .int s346, z15])), (lb, aB E (24) (lf)), (tb, aI E (60) (tf)), (sb, aI E (60) (sf)), (yb, aB E (114000) (yf)), (wb, aB E (115000) (f346))]) rfl ?_
                                  exact ih323 (x349) (s346) (f346) (j + 1) (by omega) (by omega) (by omega) (by rw [tk_s (by omega), ← List.append_assoc, ← u343]; exact es346) (by rw [tk_s (by omega), ← List.append_assoc, ← u343]; exact eb346)
                            refine g_lv [1, 2, 0] (lv' := [(0, .ref m), (5, .int n5), (6, .int x320)]) rfl ?_
                            exact loop323 _ (x320) (zk) (fk) (0) (Nat.lt_succ_self _) (by omega) (by omega) (by rw [List.take_zero, List.append_nil]; exact hz) (by rw [List.take_zero, List.append_nil]; exact hb)
                      refine g_lv [1, 0] (lv' := [(0, .ref m), (5, .int x308)]) rfl ?_
                      refine g_perm [4, 0, 1, 2, 3, 5] rfl (ws' := [(m, .inr (6, [.int x1, z1, z2, z3, .int te, .ref lb, .ref tb, .ref yb, .ref sb, .int nf, z10, z11, z12, .ref wb, .int s305, z15])), (lb, aB E (24) (lf)), (tb, aI E (60) (tf)), (sb, aI E (60) (sf)), (yb, aB E (114000) (yf)), (wb, aB E (115000) (f305))]) rfl ?_
                      exact loop311 _ (x308) (s305) (f305) (0) (Nat.lt_succ_self _) (by omega) (by omega) (by rw [show fdN fl 0 = [] from rfl, List.append_nil]; exact es305) (by rw [show fdN fl 0 = [] from rfl, List.append_nil]; exact eb305)
                    · obtain ⟨hT, hL, hBs⟩ := hMF k (by omega)
                      obtain ⟨hW1, hW2, hW3, hW4, hW5⟩ := hF.2 k (by omega)
                      have hsk1 := stt_mono fl (m := k + 1) (n := fl.length) (by omega)
                      simp only [stt] at hsk1
                      refine g_aload_n C dX4_write_243 0 rfl ?_
                      refine g_aload_n C dX4_write_244 0 rfl ?_
                      refine gf_X4_16 C 0 rfl rfl dX4_write_245 ?_
                      refine g_iload C dX4_write_248 2 rfl ?_
                      refine g_iconst C dX4_write_250 (by decide) (fun x250 e250 => ?_)
                      refine g_isub C dX4_write_251 (by omega) (fun x251 e251 => ?_)
                      refine g_iaload C 2 rfl dX4_write_252 (k) (by omega) (by omega) (fun x252 e252 => ?_)
                      have t252 := congrArg Int32.toInt e252
                      refine g_iconst C dX4_write_253 (by decide) (fun x253 e253 => ?_)
                      refine g_callV C r mv_X4_125 dX4_write_254 (c_X4_sayNumber g.l E m wb fk zk ((ldL lf (alls fl) (bas fl) 19) ++ drN fl k) (.int x1) (z1) (z2) (z3) (.int te) (.ref lb) (.ref tb) (.ref yb) (.ref sb) (.int nf) (z10) (z11) (z12) (z15) x252 x253 (fT fl k) 3 hz hb (by omega) (by omega) (by omega) (by first | omega | (simp only [List.length_append, List.length_cons, List.length_nil, dg_len, drN_len, fdN_len, ldL_19]; omega))) (wr := [(lb, aB E (24) (lf)), (tb, aI E (60) (tf)), (sb, aI E (60) (sf)), (yb, aB E (114000) (yf))]) (As := [.int x252, .int x253]) (rest := []) (Spl.at [1, 2, 3, 4] [0, 5] rfl rfl rfl) 0 rfl rfl rfl rfl (Nat.le_of_ble_eq_true rfl) (by decide) (Nat.le_refl _) (Nat.le_refl _) (fun v w h => ?_)
                      obtain ⟨rfl, f254, s254, es254, eb254, rfl⟩ := h
                      change G E g [(lb, aB E (24) (lf)), (tb, aI E (60) (tf)), (sb, aI E (60) (sf)), (yb, aB E (114000) (yf)), (m, .inr (6, [.int x1, z1, z2, z3, .int te, .ref lb, .ref tb, .ref yb, .ref sb, .int nf, z10, z11, z12, .ref wb, .int s254, z15])), (wb, aB E (115000) (f254))] _ _ _ _ []
                      refine g_aload_n C dX4_write_257 0 rfl ?_
                      refine g_aload_n C dX4_write_258 0 rfl ?_
                      refine gf_X4_24 C 4 rfl rfl dX4_write_259 ?_
                      refine g_iload C dX4_write_262 2 rfl ?_
                      refine g_iconst C dX4_write_264 (by decide) (fun x264 e264 => ?_)
                      refine g_isub C dX4_write_265 (by omega) (fun x265 e265 => ?_)
                      refine g_iaload C 2 rfl dX4_write_266 (k) (by omega) (by omega) (fun x266 e266 => ?_)
                      have t266 := congrArg Int32.toInt e266
                      refine g_iconst C dX4_write_267 (by decide) (fun x267 e267 => ?_)
                      refine g_iadd C dX4_write_268 (by omega) (fun x268 e268 => ?_)
                      refine g_iconst C dX4_write_269 (by decide) (fun x269 e269 => ?_)
                      refine g_callV C r mv_X4_125 dX4_write_270 (c_X4_sayNumber g.l E m wb f254 s254 ((ldL lf (alls fl) (bas fl) 19) ++ drN fl k ++ dg (fT fl k) 3) (.int x1) (z1) (z2) (z3) (.int te) (.ref lb) (.ref tb) (.ref yb) (.ref sb) (.int nf) (z10) (z11) (z12) (z15) x268 x269 ((fB fl k).length + 1) 4 es254 eb254 (by omega) (by omega) (by omega) (by first | omega | (simp only [List.length_append, List.length_cons, List.length_nil, dg_len, drN_len, fdN_len, ldL_19]; omega))) (wr := [(lb, aB E (24) (lf)), (tb, aI E (60) (tf)), (sb, aI E (60) (sf)), (yb, aB E (114000) (yf))]) (As := [.int x268, .int x269]) (rest := []) (Spl.at [0, 1, 2, 3] [4, 5] rfl rfl rfl) 0 rfl rfl rfl rfl (Nat.le_of_ble_eq_true rfl) (by decide) (Nat.le_refl _) (Nat.le_refl _) (fun v w h => ?_)
                      obtain ⟨rfl, f270, s270, es270, eb270, rfl⟩ := h
                      change G E g [(lb, aB E (24) (lf)), (tb, aI E (60) (tf)), (sb, aI E (60) (sf)), (yb, aB E (114000) (yf)), (m, .inr (6, [.int x1, z1, z2, z3, .int te, .ref lb, .ref tb, .ref yb, .ref sb, .int nf, z10, z11, z12, .ref wb, .int s270, z15])), (wb, aB E (115000) (f270))] _ _ _ _ []
                      refine g_aload_n C dX4_write_273 0 rfl ?_
                      refine g_iload C dX4_write_274 1 rfl ?_
                      refine g_iconst C dX4_write_276 (by decide) (fun x276 e276 => ?_)
                      refine g_callV C r mv_X4_125 dX4_write_277 (c_X4_sayNumber g.l E m wb f270 s270 ((ldL lf (alls fl) (bas fl) 19) ++ drN fl k ++ dg (fT fl k) 3 ++ dg ((fB fl k).length + 1) 4) (.int x1) (z1) (z2) (z3) (.int te) (.ref lb) (.ref tb) (.ref yb) (.ref sb) (.int nf) (z10) (z11) (z12) (z15) n4s x276 (stt fl k) 5 es270 eb270 (by omega) (by omega) (by omega) (by first | omega | (simp only [List.length_append, List.length_cons, List.length_nil, dg_len, drN_len, fdN_len, ldL_19]; omega))) (wr := [(lb, aB E (24) (lf)), (tb, aI E (60) (tf)), (sb, aI E (60) (sf)), (yb, aB E (114000) (yf))]) (As := [.int n4s, .int x276]) (rest := []) (Spl.at [0, 1, 2, 3] [4, 5] rfl rfl rfl) 0 rfl rfl rfl rfl (Nat.le_of_ble_eq_true rfl) (by decide) (Nat.le_refl _) (Nat.le_refl _) (fun v w h => ?_)
                      obtain ⟨rfl, f277, s277, es277, eb277, rfl⟩ := h
                      change G E g [(lb, aB E (24) (lf)), (tb, aI E (60) (tf)), (sb, aI E (60) (sf)), (yb, aB E (114000) (yf)), (m, .inr (6, [.int x1, z1, z2, z3, .int te, .ref lb, .ref tb, .ref yb, .ref sb, .int nf, z10, z11, z12, .ref wb, .int s277, z15])), (wb, aB E (115000) (f277))] _ _ _ _ []
                      refine g_iload C dX4_write_280 1 rfl ?_
                      refine g_aload_n C dX4_write_282 0 rfl ?_
                      refine gf_X4_24 C 4 rfl rfl dX4_write_283 ?_
                      refine g_iload C dX4_write_286 2 rfl ?_
                      refine g_iconst C dX4_write_288 (by decide) (fun x288 e288 => ?_)
                      refine g_isub C dX4_write_289 (by omega) (fun x289 e289 => ?_)
                      refine g_iaload C 2 rfl dX4_write_290 (k) (by omega) (by omega) (fun x290 e290 => ?_)
                      have t290 := congrArg Int32.toInt e290
                      refine g_iconst C dX4_write_291 (by decide) (fun x291 e291 => ?_)
                      refine g_iadd C dX4_write_292 (by omega) (fun x292 e292 => ?_)
                      refine g_iadd C dX4_write_293 (by omega) (fun x293 e293 => ?_)
                      refine g_istore C dX4_write_294 (by rw [hN]; decide) (lv' := [(4, .int x293), (0, .ref m), (5, .int n5)]) rfl ?_
                      refine g_iinc C dX4_write_296 2 rfl (by rw [hN]; decide) (by decide) (by omega) (fun x296 e296 => ?_)
                      refine g_lvE (lv' := [(5, .int x296), (4, .int x293), (0, .ref m)]) rfl ?_
                      refine g_goto C 234 dX4_write_299 (by decide) ?_
                      refine g_lv [2, 1, 0] (lv' := [(0, .ref m), (4, .int x293), (5, .int x296)]) rfl ?_
                      refine g_perm [4, 0, 1, 2, 3, 5] rfl (ws' := [(m, .inr (6, [.int x1, z1, z2, z3, .int te, .ref lb, .ref tb, .ref yb, .ref sb, .int nf, z10, z11, z12, .ref wb, .int s277, z15])), (lb, aB E (24) (lf)), (tb, aI E (60) (tf)), (sb, aI E (60) (sf)), (yb, aB E (114000) (yf)), (wb, aB E (115000) (f277))]) rfl ?_
                      exact ih234 (x293) (x296) (s277) (f277) (k + 1) (by omega) (by omega) (by omega) (by simp only [stt]; omega) (by rw [drN_s]; exact es277) (by rw [drN_s]; exact eb277)
                refine g_lv [2, 1, 0] (lv' := [(0, .ref m), (4, .int x228), (5, .int x231)]) rfl ?_
                exact loop234 _ (x228) (x231) (zk) (fk) (0) (Nat.lt_succ_self _) (by omega) (by omega) (by rw [e228]; rfl) (by rw [show drN fl 0 = [] from rfl, List.append_nil]; exact hz) (by rw [show drN fl 0 = [] from rfl, List.append_nil]; exact hb)
              · have J154 : ∀ (zk2 : Int32) (fk2 : Nat → Int32) (hz2 : zk2.toInt = ((ldL lf (alls fl) (bas fl) n ++ (if n + 5 = 12 then dg (bas fl) 5 else [])).length : Int)) (hb2 : Bs fk2 0 (ldL lf (alls fl) (bas fl) n ++ (if n + 5 = 12 then dg (bas fl) 5 else []))), G E g [(m, .inr (6, [.int x1, z1, z2, z3, .int te, .ref lb, .ref tb, .ref yb, .ref sb, .int nf, z10, z11, z12, .ref wb, .int zk2, z15])), (lb, aB E (24) (lf)), (tb, aI E (60) (tf)), (sb, aI E (60) (sf)), (yb, aB E (114000) (yf)), (wb, aB E (115000) (fk2))] 0 0 154 [(0, .ref m), (2, .int x19), (4, .int n4)] [] := by
                  intro zk2 fk2 hz2 hb2
                  have J168 : ∀ (_ : True) (hsay : n + 5 < 12 ∨ 16 < n + 5), G E g [(m, .inr (6, [.int x1, z1, z2, z3, .int te, .ref lb, .ref tb, .ref yb, .ref sb, .int nf, z10, z11, z12, .ref wb, .int zk2, z15])), (lb, aB E (24) (lf)), (tb, aI E (60) (tf)), (sb, aI E (60) (sf)), (yb, aB E (114000) (yf)), (wb, aB E (115000) (fk2))] 0 0 168 [(0, .ref m), (2, .int x19), (4, .int n4)] [] := by
                    intro _ hsay
                    have J219 : ∀ (z : Int32) (hzz : u8 z = ldB lf (n + 5)), G E g [(m, .inr (6, [.int x1, z1, z2, z3, .int te, .ref lb, .ref tb, .ref yb, .ref sb, .int nf, z10, z11, z12, .ref wb, .int zk2, z15])), (lb, aB E (24) (lf)), (tb, aI E (60) (tf)), (sb, aI E (60) (sf)), (yb, aB E (114000) (yf)), (wb, aB E (115000) (fk2))] 0 0 219 [(0, .ref m), (2, .int x19), (4, .int n4)] [.int z, .ref m] := by
                      intro z hzz
                      refine g_callV C r mv_X4_121 dX4_write_219 (c_X4_say g.l E m wb fk2 zk2 (ldL lf (alls fl) (bas fl) n ++ (if n + 5 = 12 then dg (bas fl) 5 else [])) (.int x1) (z1) (z2) (z3) (.int te) (.ref lb) (.ref tb) (.ref yb) (.ref sb) (.int nf) (z10) (z11) (z12) (z15) z hz2 hb2 (by first | omega | (simp only [List.length_append, List.length_cons, List.length_nil, dg_len, drN_len, fdN_len, ldL_19]; omega))) (wr := [(lb, aB E (24) (lf)), (tb, aI E (60) (tf)), (sb, aI E (60) (sf)), (yb, aB E (114000) (yf))]) (As := [.int z]) (rest := []) (Spl.at [1, 2, 3, 4] [0, 5] rfl rfl rfl) 0 rfl rfl rfl rfl (Nat.le_of_ble_eq_true rfl) (by decide) (Nat.le_refl _) (Nat.le_refl _) (fun v w h => ?_)
                      obtain ⟨rfl, f219, s219, es219, eb219, rfl⟩ := h
                      change G E g [(lb, aB E (24) (lf)), (tb, aI E (60) (tf)), (sb, aI E (60) (sf)), (yb, aB E (114000) (yf)), (m, .inr (6, [.int x1, z1, z2, z3, .int te, .ref lb, .ref tb, .ref yb, .ref sb, .int nf, z10, z11, z12, .ref wb, .int s219, z15])), (wb, aB E (115000) (f219))] _ _ _ _ []
                      refine g_iinc C dX4_write_222 2 rfl (by rw [hN]; decide) (by decide) (by omega) (fun x222 e222 => ?_)
                      refine g_lvE (lv' := [(4, .int x222), (0, .ref m), (2, .int x19)]) rfl ?_
                      refine g_goto C 134 dX4_write_225 (by decide) ?_
                      refine g_lv [1, 2, 0] (lv' := [(0, .ref m), (2, .int x19), (4, .int x222)]) rfl ?_
                      refine g_perm [4, 0, 1, 2, 3, 5] rfl (ws' := [(m, .inr (6, [.int x1, z1, z2, z3, .int te, .ref lb, .ref tb, .ref yb, .ref sb, .int nf, z10, z11, z12, .ref wb, .int s219, z15])), (lb, aB E (24) (lf)), (tb, aI E (60) (tf)), (sb, aI E (60) (sf)), (yb, aB E (114000) (yf)), (wb, aB E (115000) (f219))]) rfl ?_
                      exact ih134 (x222) (s219) (f219) (n + 1) (by omega) (by omega) (by omega) (by rw [ldL_b hsay, ← hzz]; exact es219) (by rw [ldL_b hsay, ← hzz]; exact eb219)
                    refine g_aload_n C dX4_write_168 0 rfl ?_
                    refine g_iload C dX4_write_169 2 rfl ?_
                    refine g_bipush C dX4_write_171 (by decide) (fun x171 e171 => ?_)
                    refine g_icmp_eq C 183 dX4_write_173 (by decide) (fun c173 => ?_) (fun c173 => ?_)
                    · refine g_bipush C dX4_write_183 (by decide) (fun x183 e183 => ?_)
                      refine g_goto C 219 dX4_write_185 (by decide) ?_
                      refine g_lv [0, 1, 2] (lv' := [(0, .ref m), (2, .int x19), (4, .int n4)]) rfl ?_
                      exact J219 (x183) (by rw [ldB_50 (by omega)]; exact u8_of e183 (by omega))
                    · refine g_iload C dX4_write_176 2 rfl ?_
                      refine g_bipush C dX4_write_178 (by decide) (fun x178 e178 => ?_)
                      refine g_icmp_ne C 188 dX4_write_180 (by decide) (fun c180 => ?_) (fun c180 => ?_)
                      · refine g_iload C dX4_write_188 2 rfl ?_
                        refine g_bipush C dX4_write_190 (by decide) (fun x190 e190 => ?_)
                        refine g_icmp_ne C 200 dX4_write_192 (by decide) (fun c192 => ?_) (fun c192 => ?_)
                        · refine g_iload C dX4_write_200 2 rfl ?_
                          refine g_bipush C dX4_write_202 (by decide) (fun x202 e202 => ?_)
                          refine g_icmp_ne C 212 dX4_write_204 (by decide) (fun c204 => ?_) (fun c204 => ?_)
                          · refine g_aload_n C dX4_write_212 0 rfl ?_
                            refine gf_X4_13 C 0 rfl rfl dX4_write_213 ?_
                            refine g_iload C dX4_write_216 2 rfl ?_
                            refine g_baload C 1 rfl dX4_write_218 (n + 5) (by omega) (by omega) (fun x218 e218 => ?_)
                            refine g_lv [0, 1, 2] (lv' := [(0, .ref m), (2, .int x19), (4, .int n4)]) rfl ?_
                            exact J219 (x218) (by rw [ldB_o (by omega), e218])
                          · refine g_bipush C dX4_write_207 (by decide) (fun x207 e207 => ?_)
                            refine g_goto C 219 dX4_write_209 (by decide) ?_
                            refine g_lv [0, 1, 2] (lv' := [(0, .ref m), (2, .int x19), (4, .int n4)]) rfl ?_
                            exact J219 (x207) (by rw [ldB_53 (by omega)]; exact u8_of e207 (by omega))
                        · refine g_bipush C dX4_write_195 (by decide) (fun x195 e195 => ?_)
                          refine g_goto C 219 dX4_write_197 (by decide) ?_
                          refine g_lv [0, 1, 2] (lv' := [(0, .ref m), (2, .int x19), (4, .int n4)]) rfl ?_
                          exact J219 (x195) (by rw [ldB_52 (by omega)]; exact u8_of e195 (by omega))
                      · refine g_bipush C dX4_write_183 (by decide) (fun x183 e183 => ?_)
                        refine g_goto C 219 dX4_write_185 (by decide) ?_
                        refine g_lv [0, 1, 2] (lv' := [(0, .ref m), (2, .int x19), (4, .int n4)]) rfl ?_
                        exact J219 (x183) (by rw [ldB_50 (by omega)]; exact u8_of e183 (by omega))
                  refine g_iload C dX4_write_154 2 rfl ?_
                  refine g_bipush C dX4_write_156 (by decide) (fun x156 e156 => ?_)
                  refine g_icmp_lt C 168 dX4_write_158 (by decide) (fun c158 => ?_) (fun c158 => ?_)
                  · refine g_lv [0, 1, 2] (lv' := [(0, .ref m), (2, .int x19), (4, .int n4)]) rfl ?_
                    exact J168 trivial (by omega)
                  · refine g_iload C dX4_write_161 2 rfl ?_
                    refine g_bipush C dX4_write_163 (by decide) (fun x163 e163 => ?_)
                    refine g_icmp_le C 222 dX4_write_165 (by decide) (fun c165 => ?_) (fun c165 => ?_)
                    · refine g_iinc C dX4_write_222 2 rfl (by rw [hN]; decide) (by decide) (by omega) (fun x222 e222 => ?_)
                      refine g_lvE (lv' := [(4, .int x222), (0, .ref m), (2, .int x19)]) rfl ?_
                      refine g_goto C 134 dX4_write_225 (by decide) ?_
                      refine g_lv [1, 2, 0] (lv' := [(0, .ref m), (2, .int x19), (4, .int x222)]) rfl ?_
                      exact ih134 (x222) (zk2) (fk2) (n + 1) (by omega) (by omega) (by omega) (by rw [ldL_a (by omega)]; exact hz2) (by rw [ldL_a (by omega)]; exact hb2)
                    · refine g_lv [0, 1, 2] (lv' := [(0, .ref m), (2, .int x19), (4, .int n4)]) rfl ?_
                      exact J168 trivial (by omega)
                refine g_iload C dX4_write_141 2 rfl ?_
                refine g_bipush C dX4_write_143 (by decide) (fun x143 e143 => ?_)
                refine g_icmp_ne C 154 dX4_write_145 (by decide) (fun c145 => ?_) (fun c145 => ?_)
                · refine g_lv [0, 1, 2] (lv' := [(0, .ref m), (2, .int x19), (4, .int n4)]) rfl ?_
                  exact J154 (zk) (fk) (by rw [if_neg (by omega), List.append_nil]; exact hz) (by rw [if_neg (by omega), List.append_nil]; exact hb)
                · refine g_aload_n C dX4_write_148 0 rfl ?_
                  refine g_iload_n C dX4_write_149 1 rfl ?_
                  refine g_iconst C dX4_write_150 (by decide) (fun x150 e150 => ?_)
                  refine g_callV C r mv_X4_125 dX4_write_151 (c_X4_sayNumber g.l E m wb fk zk (ldL lf (alls fl) (bas fl) n) (.int x1) (z1) (z2) (z3) (.int te) (.ref lb) (.ref tb) (.ref yb) (.ref sb) (.int nf) (z10) (z11) (z12) (z15) x19 x150 (bas fl) 5 hz hb hx2 (by omega) (by omega) (by first | omega | (simp only [List.length_append, List.length_cons, List.length_nil, dg_len, drN_len, fdN_len, ldL_19]; omega))) (wr := [(lb, aB E (24) (lf)), (tb, aI E (60) (tf)), (sb, aI E (60) (sf)), (yb, aB E (114000) (yf))]) (As := [.int x19, .int x150]) (rest := []) (Spl.at [1, 2, 3, 4] [0, 5] rfl rfl rfl) 0 rfl rfl rfl rfl (Nat.le_of_ble_eq_true rfl) (by decide) (Nat.le_refl _) (Nat.le_refl _) (fun v w h => ?_)
                  obtain ⟨rfl, f151, s151, es151, eb151, rfl⟩ := h
                  change G E g [(lb, aB E (24) (lf)), (tb, aI E (60) (tf)), (sb, aI E (60) (sf)), (yb, aB E (114000) (yf)), (m, .inr (6, [.int x1, z1, z2, z3, .int te, .ref lb, .ref tb, .ref yb, .ref sb, .int nf, z10, z11, z12, .ref wb, .int s151, z15])), (wb, aB E (115000) (f151))] _ _ _ _ []
                  refine g_lv [0, 1, 2] (lv' := [(0, .ref m), (2, .int x19), (4, .int n4)]) rfl ?_
                  refine g_perm [4, 0, 1, 2, 3, 5] rfl (ws' := [(m, .inr (6, [.int x1, z1, z2, z3, .int te, .ref lb, .ref tb, .ref yb, .ref sb, .int nf, z10, z11, z12, .ref wb, .int s151, z15])), (lb, aB E (24) (lf)), (tb, aI E (60) (tf)), (sb, aI E (60) (sf)), (yb, aB E (114000) (yf)), (wb, aB E (115000) (f151))]) rfl ?_
                  exact J154 (s151) (f151) (by rw [if_pos (by omega)]; exact es151) (by rw [if_pos (by omega)]; exact eb151)
          refine g_lv [1, 3, 0] (lv' := [(0, .ref m), (2, .int x19), (4, .int x131)]) rfl ?_
          refine g_perm [4, 0, 1, 2, 3, 5] rfl (ws' := [(m, .inr (6, [.int x1, z1, z2, z3, .int te, .ref lb, .ref tb, .ref yb, .ref sb, .int nf, z10, z11, z12, .ref wb, .int s128, z15])), (lb, aB E (24) (lf)), (tb, aI E (60) (tf)), (sb, aI E (60) (sf)), (yb, aB E (114000) (yf)), (wb, aB E (115000) (f128))]) rfl ?_
          exact loop134 _ (x131) (s128) (f128) (0) (Nat.lt_succ_self _) (by omega) (by omega) (by exact es128) (by exact eb128)
        · refine g_iconst C dX4_write_118 (by decide) (fun x118 e118 => ?_)
          exact g_iret C F dX4_write_119 rfl rfl (Nat.le_refl _) (Nat.le_refl _) (by exact ⟨_, _, _, _, rfl, e1, Or.inr ⟨fun h => wr_no h.2 (by have := hin h.1; omega) h.1 h1 (by omega), by omega, rfl, rfl⟩, rfl⟩)
      · refine g_aload_n C dX4_write_37 0 rfl ?_
        refine gf_X4_91 C 0 rfl rfl dX4_write_38 ?_
        refine g_if_eq C 114 dX4_write_41 (by decide) (fun c41 => ?_) (fun c41 => ?_)
        · refine g_iload_n C dX4_write_114 1 rfl ?_
          refine g_if_ne C 120 dX4_write_115 (by decide) (fun c115 => ?_) (fun c115 => ?_)
          · have hte1 : te.toInt = 1 := by omega
            have hnl := hin (by omega)
            have hkl : k = fl.length := by omega
            have hcn : cn fl fl.length = true := by rcases h1 with h | h | h; omega; rw [← hkl]; exact h.2.2; omega
            have hx126 : n3.toInt = (alls fl : Int) := by rw [h3 (by omega), hkl]; rfl
            have hx2 : x19.toInt = (bas fl : Int) := by omega
            obtain ⟨hn1, hMF⟩ := hM.in (by omega)
            clear h1 h3 hte hin hno hk h4 hm hnf hM ih28 c115 e10 e12 e18 e19 e22 e23 e25
            refine g_aload_n C dX4_write_120 0 rfl ?_
            refine g_iconst C dX4_write_121 (by decide) (fun x121 e121 => ?_)
            refine gp_X4_118 C 0 rfl (Nat.le_of_ble_eq_true rfl) rfl rfl dX4_write_122 ?_
            change G E g [(m, .inr (6, [.int x1, z1, z2, z3, .int te, .ref lb, .ref tb, .ref yb, .ref sb, .int nf, z10, z11, z12, .ref wb, .int x121, z15])), (lb, aB E (24) (lf)), (tb, aI E (60) (tf)), (sb, aI E (60) (sf)), (yb, aB E (114000) (yf)), (wb, aB E (115000) (wf))] _ _ _ _ _
            have e121n : x121.toInt = (([] : List Nat).length : Int) := by rw [e121]; rfl
            clear e121
            refine g_aload_n C dX4_write_125 0 rfl ?_
            refine g_iload_n C dX4_write_126 3 rfl ?_
            refine g_iconst C dX4_write_127 (by decide) (fun x127 e127 => ?_)
            refine g_callV C r mv_X4_125 dX4_write_128 (c_X4_sayNumber g.l E m wb wf x121 ([]) (.int x1) (z1) (z2) (z3) (.int te) (.ref lb) (.ref tb) (.ref yb) (.ref sb) (.int nf) (z10) (z11) (z12) (z15) n3 x127 (alls fl) 5 e121n (Bs_nil _ _) hx126 (by omega) (by omega) (by first | omega | (simp only [List.length_append, List.length_cons, List.length_nil, dg_len, drN_len, fdN_len, ldL_19]; omega))) (wr := [(lb, aB E (24) (lf)), (tb, aI E (60) (tf)), (sb, aI E (60) (sf)), (yb, aB E (114000) (yf))]) (As := [.int n3, .int x127]) (rest := []) (Spl.at [1, 2, 3, 4] [0, 5] rfl rfl rfl) 0 rfl rfl rfl rfl (Nat.le_of_ble_eq_true rfl) (by decide) (Nat.le_refl _) (Nat.le_refl _) (fun v w h => ?_)
            obtain ⟨rfl, f128, s128, es128, eb128, rfl⟩ := h
            change G E g [(lb, aB E (24) (lf)), (tb, aI E (60) (tf)), (sb, aI E (60) (sf)), (yb, aB E (114000) (yf)), (m, .inr (6, [.int x1, z1, z2, z3, .int te, .ref lb, .ref tb, .ref yb, .ref sb, .int nf, z10, z11, z12, .ref wb, .int s128, z15])), (wb, aB E (115000) (f128))] _ _ _ _ []
            refine g_iconst C dX4_write_131 (by decide) (fun x131 e131 => ?_)
            refine g_istore C dX4_write_132 (by rw [hN]; decide) (lv' := [(4, .int x131), (0, .ref m), (1, .int n1), (2, .int x19), (3, .int n3)]) rfl ?_
            have loop134 : ∀ (nn : Nat) (n4 : Int32) (zk : Int32) (fk : Nat → Int32) (n : Nat) (hm : 19 - n < nn) (hn : n ≤ 19) (h4n : n4.toInt = (n : Int) + 5) (hz : zk.toInt = ((ldL lf (alls fl) (bas fl) n).length : Int)) (hb : Bs fk 0 (ldL lf (alls fl) (bas fl) n)), G E g [(m, .inr (6, [.int x1, z1, z2, z3, .int te, .ref lb, .ref tb, .ref yb, .ref sb, .int nf, z10, z11, z12, .ref wb, .int zk, z15])), (lb, aB E (24) (lf)), (tb, aI E (60) (tf)), (sb, aI E (60) (sf)), (yb, aB E (114000) (yf)), (wb, aB E (115000) (fk))] 0 0 134 [(0, .ref m), (2, .int x19), (4, .int n4)] [] := by
              intro nn
              induction nn with
              | zero => intro n4 zk fk n hm hn h4n hz hb; omega
              | succ nn ih134 =>
                intro n4 zk fk n hm hn h4n hz hb
                have hll := ldL_len lf (alls fl) (bas fl) n
                have hif : (if n + 5 = 12 then dg (bas fl) 5 else []).length ≤ 5 := by split <;> simp [dg_len]
                refine g_iload C dX4_write_134 2 rfl ?_
                refine g_bipush C dX4_write_136 (by decide) (fun x136 e136 => ?_)
                refine g_icmp_ge C 228 dX4_write_138 (by decide) (fun c138 => ?_) (fun c138 => ?_)
                · obtain rfl : n = 19 := by omega
                  refine g_iconst C dX4_write_228 (by decide) (fun x228 e228 => ?_)
                  refine g_istore C dX4_write_229 (by rw [hN]; decide) (lv' := [(4, .int x228), (0, .ref m), (2, .int x19)]) rfl ?_
                  refine g_iconst C dX4_write_231 (by decide) (fun x231 e231 => ?_)
                  refine g_istore C dX4_write_232 (by rw [hN]; decide) (lv' := [(5, .int x231), (4, .int x228), (0, .ref m), (2, .int x19)]) rfl ?_
                  have loop234 : ∀ (nn : Nat) (n4s : Int32) (n5 : Int32) (zk : Int32) (fk : Nat → Int32) (k : Nat) (hm : fl.length + 1 - k < nn) (hk : k ≤ fl.length) (h5 : n5.toInt = (k : Int) + 1) (hs : n4s.toInt = (stt fl k : Int)) (hz : zk.toInt = (((ldL lf (alls fl) (bas fl) 19) ++ drN fl k).length : Int)) (hb : Bs fk 0 ((ldL lf (alls fl) (bas fl) 19) ++ drN fl k)), G E g [(m, .inr (6, [.int x1, z1, z2, z3, .int te, .ref lb, .ref tb, .ref yb, .ref sb, .int nf, z10, z11, z12, .ref wb, .int zk, z15])), (lb, aB E (24) (lf)), (tb, aI E (60) (tf)), (sb, aI E (60) (sf)), (yb, aB E (114000) (yf)), (wb, aB E (115000) (fk))] 0 0 234 [(0, .ref m), (4, .int n4s), (5, .int n5)] [] := by
                    intro nn
                    induction nn with
                    | zero => intro n4s n5 zk fk k hm hk h5 hs hz hb; omega
                    | succ nn ih234 =>
                      intro n4s n5 zk fk k hm hk h5 hs hz hb
                      have hsk := stt_mono fl hk
                      refine g_iload C dX4_write_234 2 rfl ?_
                      refine g_aload_n C dX4_write_236 0 rfl ?_
                      refine gf_X4_88 C 0 rfl rfl dX4_write_237 ?_
                      refine g_icmp_gt C 302 dX4_write_240 (by decide) (fun c240 => ?_) (fun c240 => ?_)
                      · obtain rfl : k = fl.length := by omega
                        have hz305 := hz
                        have hb305 := hb
                        refine g_aload_n C dX4_write_302 0 rfl ?_
                        refine g_bipush C dX4_write_303 (by decide) (fun x303 e303 => ?_)
                        refine g_callV C r mv_X4_121 dX4_write_305 (c_X4_say g.l E m wb fk zk ((ldL lf (alls fl) (bas fl) 19) ++ drN fl fl.length) (.int x1) (z1) (z2) (z3) (.int te) (.ref lb) (.ref tb) (.ref yb) (.ref sb) (.int nf) (z10) (z11) (z12) (z15) x303 hz305 hb305 (by first | omega | (simp only [List.length_append, List.length_cons, List.length_nil, dg_len, drN_len, fdN_len, ldL_19]; omega))) (wr := [(lb, aB E (24) (lf)), (tb, aI E (60) (tf)), (sb, aI E (60) (sf)), (yb, aB E (114000) (yf))]) (As := [.int x303]) (rest := []) (Spl.at [1, 2, 3, 4] [0, 5] rfl rfl rfl) 0 rfl rfl rfl rfl (Nat.le_of_ble_eq_true rfl) (by decide) (Nat.le_refl _) (Nat.le_refl _) (fun v w h => ?_)
                        obtain ⟨rfl, f305, s305, es305, eb305, rfl⟩ := h
                        change G E g [(lb, aB E (24) (lf)), (tb, aI E (60) (tf)), (sb, aI E (60) (sf)), (yb, aB E (114000) (yf)), (m, .inr (6, [.int x1, z1, z2, z3, .int te, .ref lb, .ref tb, .ref yb, .ref sb, .int nf, z10, z11, z12, .ref wb, .int s305, z15])), (wb, aB E (115000) (f305))] _ _ _ _ []
                        rw [u8_of (n := 30) e303 (by omega)] at es305 eb305
                        refine g_iconst C dX4_write_308 (by decide) (fun x308 e308 => ?_)
                        refine g_istore C dX4_write_309 (by rw [hN]; decide) (lv' := [(5, .int x308), (0, .ref m), (4, .int n4s)]) rfl ?_
                        have loop311 : ∀ (nn : Nat) (n5 : Int32) (zk : Int32) (fk : Nat → Int32) (k : Nat) (hm : fl.length + 1 - k < nn) (hk : k ≤ fl.length) (h5 : n5.toInt = (k : Int) + 1) (hz : zk.toInt = ((((ldL lf (alls fl) (bas fl) 19) ++ drN fl fl.length ++ [30]) ++ fdN fl k).length : Int)) (hb : Bs fk 0 (((ldL lf (alls fl) (bas fl) 19) ++ drN fl fl.length ++ [30]) ++ fdN fl k)), G E g [(m, .inr (6, [.int x1, z1, z2, z3, .int te, .ref lb, .ref tb, .ref yb, .ref sb, .int nf, z10, z11, z12, .ref wb, .int zk, z15])), (lb, aB E (24) (lf)), (tb, aI E (60) (tf)), (sb, aI E (60) (sf)), (yb, aB E (114000) (yf)), (wb, aB E (115000) (fk))] 0 0 311 [(0, .ref m), (5, .int n5)] [] := by
                          intro nn
                          induction nn with
                          | zero => intro n5 zk fk k hm hk h5 hz hb; omega
                          | succ nn ih311 =>
                            intro n5 zk fk k hm hk h5 hz hb
                            have hsk := stt_mono fl hk
                            refine g_iload C dX4_write_311 1 rfl ?_
                            refine g_aload_n C dX4_write_313 0 rfl ?_
                            refine gf_X4_88 C 0 rfl rfl dX4_write_314 ?_
                            refine g_icmp_gt C 367 dX4_write_317 (by decide) (fun c317 => ?_) (fun c317 => ?_)
                            · obtain rfl : k = fl.length := by omega
                              have hz370 := hz
                              have hb370 := hb
                              refine g_aload_n C dX4_write_367 0 rfl ?_
                              refine g_bipush C dX4_write_368 (by decide) (fun x368 e368 => ?_)
                              refine g_callV C r mv_X4_121 dX4_write_370 (c_X4_say g.l E m wb fk zk (((ldL lf (alls fl) (bas fl) 19) ++ drN fl fl.length ++ [30]) ++ fdN fl fl.length) (.int x1) (z1) (z2) (z3) (.int te) (.ref lb) (.ref tb) (.ref yb) (.ref sb) (.int nf) (z10) (z11) (z12) (z15) x368 hz370 hb370 (by first | omega | (simp only [List.length_append, List.length_cons, List.length_nil, dg_len, drN_len, fdN_len, ldL_19]; omega))) (wr := [(lb, aB E (24) (lf)), (tb, aI E (60) (tf)), (sb, aI E (60) (sf)), (yb, aB E (114000) (yf))]) (As := [.int x368]) (rest := []) (Spl.at [1, 2, 3, 4] [0, 5] rfl rfl rfl) 0 rfl rfl rfl rfl (Nat.le_of_ble_eq_true rfl) (by decide) (Nat.le_refl _) (Nat.le_refl _) (fun v w h => ?_)
                              obtain ⟨rfl, f370, s370, es370, eb370, rfl⟩ := h
                              change G E g [(lb, aB E (24) (lf)), (tb, aI E (60) (tf)), (sb, aI E (60) (sf)), (yb, aB E (114000) (yf)), (m, .inr (6, [.int x1, z1, z2, z3, .int te, .ref lb, .ref tb, .ref yb, .ref sb, .int nf, z10, z11, z12, .ref wb, .int s370, z15])), (wb, aB E (115000) (f370))] _ _ _ _ []
                              rw [u8_of (n := 29) e368 (by omega)] at es370 eb370
                              refine g_aload_n C dX4_write_373 0 rfl ?_
                              refine gf_X4_118 C 4 rfl rfl dX4_write_374 ?_
                              refine g_perm [4, 0, 1, 2, 3, 5] rfl (ws' := [(m, .inr (6, [.int x1, z1, z2, z3, .int te, .ref lb, .ref tb, .ref yb, .ref sb, .int nf, z10, z11, z12, .ref wb, .int s370, z15])), (lb, aB E (24) (lf)), (tb, aI E (60) (tf)), (sb, aI E (60) (sf)), (yb, aB E (114000) (yf)), (wb, aB E (115000) (f370))]) rfl ?_
                              exact g_iret C F dX4_write_377 rfl rfl (Nat.le_refl _) (Nat.le_refl _) (by exact ⟨_, _, _, _, rfl, e1, Or.inl ⟨⟨by omega, hcn⟩, es370, es370, eb370⟩, rfl⟩)
                            · obtain ⟨hT, hL, hBs⟩ := hMF k (by omega)
                              obtain ⟨hW1, hW2, hW3, hW4, hW5⟩ := hF.2 k (by omega)
                              have hsk1 := stt_mono fl (m := k + 1) (n := fl.length) (by omega)
                              simp only [stt] at hsk1
                              refine g_iconst C dX4_write_320 (by decide) (fun x320 e320 => ?_)
                              refine g_istore C dX4_write_321 (by rw [hN]; decide) (lv' := [(6, .int x320), (0, .ref m), (5, .int n5)]) rfl ?_
                              have loop323 : ∀ (nn : Nat) (n6 : Int32) (zj : Int32) (fj : Nat → Int32) (j : Nat) (hm : (fB fl k).length - j < nn) (hj : j ≤ (fB fl k).length) (h6 : n6.toInt = (j : Int)) (hzj : zj.toInt = ((((ldL lf (alls fl) (bas fl) 19) ++ drN fl fl.length ++ [30]) ++ fdN fl k ++ (fB fl k).take j).length : Int)) (hbj : Bs fj 0 (((ldL lf (alls fl) (bas fl) 19) ++ drN fl fl.length ++ [30]) ++ fdN fl k ++ (fB fl k).take j)), G E g [(m, .inr (6, [.int x1, z1, z2, z3, .int te, .ref lb, .ref tb, .ref yb, .ref sb, .int nf, z10, z11, z12, .ref wb, .int zj, z15])), (lb, aB E (24) (lf)), (tb, aI E (60) (tf)), (sb, aI E (60) (sf)), (yb, aB E (114000) (yf)), (wb, aB E (115000) (fj))] 0 0 323 [(0, .ref m), (5, .int n5), (6, .int n6)] [] := by
                                intro nn
                                induction nn with
                                | zero => intro n6 zj fj j hm hj h6 hzj hbj; omega
                                | succ nn ih323 =>
                                  intro n6 zj fj j hm hj h6 hzj hbj
                                  have htk : ((fB fl k).take j).length ≤ (fB fl k).length := by rw [List.length_take]; exact Nat.min_le_right _ _
                                  refine g_iload C dX4_write_323 2 rfl ?_
                                  refine g_aload_n C dX4_write_325 0 rfl ?_
                                  refine gf_X4_24 C 0 rfl rfl dX4_write_326 ?_
                                  refine g_iload C dX4_write_329 1 rfl ?_
                                  refine g_iconst C dX4_write_331 (by decide) (fun x331 e331 => ?_)
                                  refine g_isub C dX4_write_332 (by omega) (fun x332 e332 => ?_)
                                  refine g_iaload C 3 rfl dX4_write_333 (k) (by omega) (by omega) (fun x333 e333 => ?_)
                                  have t333 := congrArg Int32.toInt e333
                                  refine g_icmp_ge C 355 dX4_write_334 (by decide) (fun c334 => ?_) (fun c334 => ?_)
                                  · obtain rfl : j = (fB fl k).length := by omega
                                    rw [List.take_length] at hzj hbj
                                    have hz358 := hzj
                                    have hb358 := hbj
                                    refine g_aload_n C dX4_write_355 0 rfl ?_
                                    refine g_bipush C dX4_write_356 (by decide) (fun x356 e356 => ?_)
                                    refine g_callV C r mv_X4_121 dX4_write_358 (c_X4_say g.l E m wb fj zj (((ldL lf (alls fl) (bas fl) 19) ++ drN fl fl.length ++ [30]) ++ fdN fl k ++ fB fl k) (.int x1) (z1) (z2) (z3) (.int te) (.ref lb) (.ref tb) (.ref yb) (.ref sb) (.int nf) (z10) (z11) (z12) (z15) x356 hz358 hb358 (by first | omega | (simp only [List.length_append, List.length_cons, List.length_nil, dg_len, drN_len, fdN_len, ldL_19]; omega))) (wr := [(lb, aB E (24) (lf)), (tb, aI E (60) (tf)), (sb, aI E (60) (sf)), (yb, aB E (114000) (yf))]) (As := [.int x356]) (rest := []) (Spl.at [1, 2, 3, 4] [0, 5] rfl rfl rfl) 0 rfl rfl rfl rfl (Nat.le_of_ble_eq_true rfl) (by decide) (Nat.le_refl _) (Nat.le_refl _) (fun v w h => ?_)
                                    obtain ⟨rfl, f358, s358, es358, eb358, rfl⟩ := h
                                    change G E g [(lb, aB E (24) (lf)), (tb, aI E (60) (tf)), (sb, aI E (60) (sf)), (yb, aB E (114000) (yf)), (m, .inr (6, [.int x1, z1, z2, z3, .int te, .ref lb, .ref tb, .ref yb, .ref sb, .int nf, z10, z11, z12, .ref wb, .int s358, z15])), (wb, aB E (115000) (f358))] _ _ _ _ []
                                    rw [u8_of (n := 30) e356 (by omega)] at es358 eb358
                                    refine g_iinc C dX4_write_361 1 rfl (by rw [hN]; decide) (by decide) (by omega) (fun x361 e361 => ?_)
                                    refine g_lvE (lv' := [(5, .int x361), (0, .ref m), (6, .int n6)]) rfl ?_
                                    refine g_goto C 311 dX4_write_364 (by decide) ?_
                                    refine g_lv [1, 0] (lv' := [(0, .ref m), (5, .int x361)]) rfl ?_
                                    refine g_perm [4, 0, 1, 2, 3, 5] rfl (ws' := [(m, .inr (6, [.int x1, z1, z2, z3, .int te, .ref lb, .ref tb, .ref yb, .ref sb, .int nf, z10, z11, z12, .ref wb, .int s358, z15])), (lb, aB E (24) (lf)), (tb, aI E (60) (tf)), (sb, aI E (60) (sf)), (yb, aB E (114000) (yf)), (wb, aB E (115000) (f358))]) rfl ?_
                                    exact ih311 (x361) (s358) (f358) (k + 1) (by omega) (by omega) (by omega) (by rw [fdN_s]; exact es358) (by rw [fdN_s]; exact eb358)
                                  · refine g_aload_n C dX4_write_337 0 rfl ?_
                                    refine g_aload_n C dX4_write_338 0 rfl ?_
                                    refine g_iload C dX4_write_339 1 rfl ?_
                                    refine g_iload C dX4_write_341 2 rfl ?_
                                    refine g_callV C r mv_X4_104 dX4_write_343 (c_X4_at g.l E m yb yf n5 n6 (k) (j) (.int x1) (z1) (z2) (z3) (.int te) (.ref lb) (.ref tb) (.ref sb) (.int nf) (z10) (z11) (z12) (.ref wb) (.int zj) (z15) (by omega) (by omega) (by omega) (by omega)) (wr := [(lb, aB E (24) (lf)), (tb, aI E (60) (tf)), (sb, aI E (60) (sf)), (wb, aB E (115000) (fj))]) (As := [.int n5, .int n6]) (rest := [.ref m]) (Spl.at [1, 2, 3, 5] [0, 4] rfl rfl rfl) 0 rfl rfl rfl rfl (Nat.le_of_ble_eq_true rfl) (by decide) (Nat.le_refl _) (Nat.le_refl _) (fun v w h => ?_)
                                    obtain ⟨x343, rfl, e343, rfl⟩ := h
                                    change G E g [(lb, aB E (24) (lf)), (tb, aI E (60) (tf)), (sb, aI E (60) (sf)), (wb, aB E (115000) (fj)), (m, .inr (6, [.int x1, z1, z2, z3, .int te, .ref lb, .ref tb, .ref yb, .ref sb, .int nf, z10, z11, z12, .ref wb, .int zj, z15])), (yb, aB E (114000) (yf))] _ _ _ _ [.int x343, .ref m]
                                    rw [Bs_at hBs hW2 (by omega)] at e343
                                    have u343 := u8_of e343 (B8_d hW2 j)
                                    refine g_callV C r mv_X4_121 dX4_write_346 (c_X4_say g.l E m wb fj zj (((ldL lf (alls fl) (bas fl) 19) ++ drN fl fl.length ++ [30]) ++ fdN fl k ++ (fB fl k).take j) (.int x1) (z1) (z2) (z3) (.int te) (.ref lb) (.ref tb) (.ref yb) (.ref sb) (.int nf) (z10) (z11) (z12) (z15) x343 hzj hbj (by first | omega | (simp only [List.length_append, List.length_cons, List.length_nil, dg_len, drN_len, fdN_len, ldL_19]; omega))) (wr := [(lb, aB E (24) (lf)), (tb, aI E (60) (tf)), (sb, aI E (60) (sf)), (yb, aB E (114000) (yf))]) (As := [.int x343]) (rest := []) (Spl.at [0, 1, 2, 5] [4, 3] rfl rfl rfl) 0 rfl rfl rfl rfl (Nat.le_of_ble_eq_true rfl) (by decide) (Nat.le_refl _) (Nat.le_refl _) (fun v w h => ?_)
                                    obtain ⟨rfl, f346, s346, es346, eb346, rfl⟩ := h
                                    change G E g [(lb, aB E (24) (lf)), (tb, aI E (60) (tf)), (sb, aI E (60) (sf)), (yb, aB E (114000) (yf)), (m, .inr (6, [.int x1, z1, z2, z3, .int te, .ref lb, .ref tb, .ref yb, .ref sb, .int nf, z10, z11, z12, .ref wb, .int s346, z15])), (wb, aB E (115000) (f346))] _ _ _ _ []
                                    refine g_iinc C dX4_write_349 2 rfl (by rw [hN]; decide) (by decide) (by omega) (fun x349 e349 => ?_)
                                    refine g_lvE (lv' := [(6, .int x349), (0, .ref m), (5, .int n5)]) rfl ?_
                                    refine g_goto C 323 dX4_write_352 (by decide) ?_
                                    refine g_lv [1, 2, 0] (lv' := [(0, .ref m), (5, .int n5), (6, .int x349)]) rfl ?_
                                    refine g_perm [4, 0, 1, 2, 3, 5] rfl (ws' := [(m, .inr (6, [.int x1, z1, z2, z3, .int te, .ref lb, .ref tb, .ref yb, .ref sb, .int nf, z10, z11, z12, .ref wb, .int s346, z15])), (lb, aB E (24) (lf)), (tb, aI E (60) (tf)), (sb, aI E (60) (sf)), (yb, aB E (114000) (yf)), (wb, aB E (115000) (f346))]) rfl ?_
                                    exact ih323 (x349) (s346) (f346) (j + 1) (by omega) (by omega) (by omega) (by rw [tk_s (by omega), ← List.append_assoc, ← u343]; exact es346) (by rw [tk_s (by omega), ← List.append_assoc, ← u343]; exact eb346)
                              refine g_lv [1, 2, 0] (lv' := [(0, .ref m), (5, .int n5), (6, .int x320)]) rfl ?_
                              exact loop323 _ (x320) (zk) (fk) (0) (Nat.lt_succ_self _) (by omega) (by omega) (by rw [List.take_zero, List.append_nil]; exact hz) (by rw [List.take_zero, List.append_nil]; exact hb)
                        refine g_lv [1, 0] (lv' := [(0, .ref m), (5, .int x308)]) rfl ?_
                        refine g_perm [4, 0, 1, 2, 3, 5] rfl (ws' := [(m, .inr (6, [.int x1, z1, z2, z3, .int te, .ref lb, .ref tb, .ref yb, .ref sb, .int nf, z10, z11, z12, .ref wb, .int s305, z15])), (lb, aB E (24) (lf)), (tb, aI E (60) (tf)), (sb, aI E (60) (sf)), (yb, aB E (114000) (yf)), (wb, aB E (115000) (f305))]) rfl ?_
                        exact loop311 _ (x308) (s305) (f305) (0) (Nat.lt_succ_self _) (by omega) (by omega) (by rw [show fdN fl 0 = [] from rfl, List.append_nil]; exact es305) (by rw [show fdN fl 0 = [] from rfl, List.append_nil]; exact eb305)
                      · obtain ⟨hT, hL, hBs⟩ := hMF k (by omega)
                        obtain ⟨hW1, hW2, hW3, hW4, hW5⟩ := hF.2 k (by omega)
                        have hsk1 := stt_mono fl (m := k + 1) (n := fl.length) (by omega)
                        simp only [stt] at hsk1
                        refine g_aload_n C dX4_write_243 0 rfl ?_
                        refine g_aload_n C dX4_write_244 0 rfl ?_
                        refine gf_X4_16 C 0 rfl rfl dX4_write_245 ?_
                        refine g_iload C dX4_write_248 2 rfl ?_
                        refine g_iconst C dX4_write_250 (by decide) (fun x250 e250 => ?_)
                        refine g_isub C dX4_write_251 (by omega) (fun x251 e251 => ?_)
                        refine g_iaload C 2 rfl dX4_write_252 (k) (by omega) (by omega) (fun x252 e252 => ?_)
                        have t252 := congrArg Int32.toInt e252
                        refine g_iconst C dX4_write_253 (by decide) (fun x253 e253 => ?_)
                        refine g_callV C r mv_X4_125 dX4_write_254 (c_X4_sayNumber g.l E m wb fk zk ((ldL lf (alls fl) (bas fl) 19) ++ drN fl k) (.int x1) (z1) (z2) (z3) (.int te) (.ref lb) (.ref tb) (.ref yb) (.ref sb) (.int nf) (z10) (z11) (z12) (z15) x252 x253 (fT fl k) 3 hz hb (by omega) (by omega) (by omega) (by first | omega | (simp only [List.length_append, List.length_cons, List.length_nil, dg_len, drN_len, fdN_len, ldL_19]; omega))) (wr := [(lb, aB E (24) (lf)), (tb, aI E (60) (tf)), (sb, aI E (60) (sf)), (yb, aB E (114000) (yf))]) (As := [.int x252, .int x253]) (rest := []) (Spl.at [1, 2, 3, 4] [0, 5] rfl rfl rfl) 0 rfl rfl rfl rfl (Nat.le_of_ble_eq_true rfl) (by decide) (Nat.le_refl _) (Nat.le_refl _) (fun v w h => ?_)
                        obtain ⟨rfl, f254, s254, es254, eb254, rfl⟩ := h
                        change G E g [(lb, aB E (24) (lf)), (tb, aI E (60) (tf)), (sb, aI E (60) (sf)), (yb, aB E (114000) (yf)), (m, .inr (6, [.int x1, z1, z2, z3, .int te, .ref lb, .ref tb, .ref yb, .ref sb, .int nf, z10, z11, z12, .ref wb, .int s254, z15])), (wb, aB E (115000) (f254))] _ _ _ _ []
                        refine g_aload_n C dX4_write_257 0 rfl ?_
                        refine g_aload_n C dX4_write_258 0 rfl ?_
                        refine gf_X4_24 C 4 rfl rfl dX4_write_259 ?_
                        refine g_iload C dX4_write_262 2 rfl ?_
                        refine g_iconst C dX4_write_264 (by decide) (fun x264 e264 => ?_)
                        refine g_isub C dX4_write_265 (by omega) (fun x265 e265 => ?_)
                        refine g_iaload C 2 rfl dX4_write_266 (k) (by omega) (by omega) (fun x266 e266 => ?_)
                        have t266 := congrArg Int32.toInt e266
                        refine g_iconst C dX4_write_267 (by decide) (fun x267 e267 => ?_)
                        refine g_iadd C dX4_write_268 (by omega) (fun x268 e268 => ?_)
                        refine g_iconst C dX4_write_269 (by decide) (fun x269 e269 => ?_)
                        refine g_callV C r mv_X4_125 dX4_write_270 (c_X4_sayNumber g.l E m wb f254 s254 ((ldL lf (alls fl) (bas fl) 19) ++ drN fl k ++ dg (fT fl k) 3) (.int x1) (z1) (z2) (z3) (.int te) (.ref lb) (.ref tb) (.ref yb) (.ref sb) (.int nf) (z10) (z11) (z12) (z15) x268 x269 ((fB fl k).length + 1) 4 es254 eb254 (by omega) (by omega) (by omega) (by first | omega | (simp only [List.length_append, List.length_cons, List.length_nil, dg_len, drN_len, fdN_len, ldL_19]; omega))) (wr := [(lb, aB E (24) (lf)), (tb, aI E (60) (tf)), (sb, aI E (60) (sf)), (yb, aB E (114000) (yf))]) (As := [.int x268, .int x269]) (rest := []) (Spl.at [0, 1, 2, 3] [4, 5] rfl rfl rfl) 0 rfl rfl rfl rfl (Nat.le_of_ble_eq_true rfl) (by decide) (Nat.le_refl _) (Nat.le_refl _) (fun v w h => ?_)
                        obtain ⟨rfl, f270, s270, es270, eb270, rfl⟩ := h
                        change G E g [(lb, aB E (24) (lf)), (tb, aI E (60) (tf)), (sb, aI E (60) (sf)), (yb, aB E (114000) (yf)), (m, .inr (6, [.int x1, z1, z2, z3, .int te, .ref lb, .ref tb, .ref yb, .ref sb, .int nf, z10, z11, z12, .ref wb, .int s270, z15])), (wb, aB E (115000) (f270))] _ _ _ _ []
                        refine g_aload_n C dX4_write_273 0 rfl ?_
                        refine g_iload C dX4_write_274 1 rfl ?_
                        refine g_iconst C dX4_write_276 (by decide) (fun x276 e276 => ?_)
                        refine g_callV C r mv_X4_125 dX4_write_277 (c_X4_sayNumber g.l E m wb f270 s270 ((ldL lf (alls fl) (bas fl) 19) ++ drN fl k ++ dg (fT fl k) 3 ++ dg ((fB fl k).length + 1) 4) (.int x1) (z1) (z2) (z3) (.int te) (.ref lb) (.ref tb) (.ref yb) (.ref sb) (.int nf) (z10) (z11) (z12) (z15) n4s x276 (stt fl k) 5 es270 eb270 (by omega) (by omega) (by omega) (by first | omega | (simp only [List.length_append, List.length_cons, List.length_nil, dg_len, drN_len, fdN_len, ldL_19]; omega))) (wr := [(lb, aB E (24) (lf)), (tb, aI E (60) (tf)), (sb, aI E (60) (sf)), (yb, aB E (114000) (yf))]) (As := [.int n4s, .int x276]) (rest := []) (Spl.at [0, 1, 2, 3] [4, 5] rfl rfl rfl) 0 rfl rfl rfl rfl (Nat.le_of_ble_eq_true rfl) (by decide) (Nat.le_refl _) (Nat.le_refl _) (fun v w h => ?_)
                        obtain ⟨rfl, f277, s277, es277, eb277, rfl⟩ := h
                        change G E g [(lb, aB E (24) (lf)), (tb, aI E (60) (tf)), (sb, aI E (60) (sf)), (yb, aB E (114000) (yf)), (m, .inr (6, [.int x1, z1, z2, z3, .int te, .ref lb, .ref tb, .ref yb, .ref sb, .int nf, z10, z11, z12, .ref wb, .int s277, z15])), (wb, aB E (115000) (f277))] _ _ _ _ []
                        refine g_iload C dX4_write_280 1 rfl ?_
                        refine g_aload_n C dX4_write_282 0 rfl ?_
                        refine gf_X4_24 C 4 rfl rfl dX4_write_283 ?_
                        refine g_iload C dX4_write_286 2 rfl ?_
                        refine g_iconst C dX4_write_288 (by decide) (fun x288 e288 => ?_)
                        refine g_isub C dX4_write_289 (by omega) (fun x289 e289 => ?_)
                        refine g_iaload C 2 rfl dX4_write_290 (k) (by omega) (by omega) (fun x290 e290 => ?_)
                        have t290 := congrArg Int32.toInt e290
                        refine g_iconst C dX4_write_291 (by decide) (fun x291 e291 => ?_)
                        refine g_iadd C dX4_write_292 (by omega) (fun x292 e292 => ?_)
                        refine g_iadd C dX4_write_293 (by omega) (fun x293 e293 => ?_)
                        refine g_istore C dX4_write_294 (by rw [hN]; decide) (lv' := [(4, .int x293), (0, .ref m), (5, .int n5)]) rfl ?_
                        refine g_iinc C dX4_write_296 2 rfl (by rw [hN]; decide) (by decide) (by omega) (fun x296 e296 => ?_)
                        refine g_lvE (lv' := [(5, .int x296), (4, .int x293), (0, .ref m)]) rfl ?_
                        refine g_goto C 234 dX4_write_299 (by decide) ?_
                        refine g_lv [2, 1, 0] (lv' := [(0, .ref m), (4, .int x293), (5, .int x296)]) rfl ?_
                        refine g_perm [4, 0, 1, 2, 3, 5] rfl (ws' := [(m, .inr (6, [.int x1, z1, z2, z3, .int te, .ref lb, .ref tb, .ref yb, .ref sb, .int nf, z10, z11, z12, .ref wb, .int s277, z15])), (lb, aB E (24) (lf)), (tb, aI E (60) (tf)), (sb, aI E (60) (sf)), (yb, aB E (114000) (yf)), (wb, aB E (115000) (f277))]) rfl ?_
                        exact ih234 (x293) (x296) (s277) (f277) (k + 1) (by omega) (by omega) (by omega) (by simp only [stt]; omega) (by rw [drN_s]; exact es277) (by rw [drN_s]; exact eb277)
                  refine g_lv [2, 1, 0] (lv' := [(0, .ref m), (4, .int x228), (5, .int x231)]) rfl ?_
                  exact loop234 _ (x228) (x231) (zk) (fk) (0) (Nat.lt_succ_self _) (by omega) (by omega) (by rw [e228]; rfl) (by rw [show drN fl 0 = [] from rfl, List.append_nil]; exact hz) (by rw [show drN fl 0 = [] from rfl, List.append_nil]; exact hb)
                · have J154 : ∀ (zk2 : Int32) (fk2 : Nat → Int32) (hz2 : zk2.toInt = ((ldL lf (alls fl) (bas fl) n ++ (if n + 5 = 12 then dg (bas fl) 5 else [])).length : Int)) (hb2 : Bs fk2 0 (ldL lf (alls fl) (bas fl) n ++ (if n + 5 = 12 then dg (bas fl) 5 else []))), G E g [(m, .inr (6, [.int x1, z1, z2, z3, .int te, .ref lb, .ref tb, .ref yb, .ref sb, .int nf, z10, z11, z12, .ref wb, .int zk2, z15])), (lb, aB E (24) (lf)), (tb, aI E (60) (tf)), (sb, aI E (60) (sf)), (yb, aB E (114000) (yf)), (wb, aB E (115000) (fk2))] 0 0 154 [(0, .ref m), (2, .int x19), (4, .int n4)] [] := by
                    intro zk2 fk2 hz2 hb2
                    have J168 : ∀ (_ : True) (hsay : n + 5 < 12 ∨ 16 < n + 5), G E g [(m, .inr (6, [.int x1, z1, z2, z3, .int te, .ref lb, .ref tb, .ref yb, .ref sb, .int nf, z10, z11, z12, .ref wb, .int zk2, z15])), (lb, aB E (24) (lf)), (tb, aI E (60) (tf)), (sb, aI E (60) (sf)), (yb, aB E (114000) (yf)), (wb, aB E (115000) (fk2))] 0 0 168 [(0, .ref m), (2, .int x19), (4, .int n4)] [] := by
                      intro _ hsay
                      have J219 : ∀ (z : Int32) (hzz : u8 z = ldB lf (n + 5)), G E g [(m, .inr (6, [.int x1, z1, z2, z3, .int te, .ref lb, .ref tb, .ref yb, .ref sb, .int nf, z10, z11, z12, .ref wb, .int zk2, z15])), (lb, aB E (24) (lf)), (tb, aI E (60) (tf)), (sb, aI E (60) (sf)), (yb, aB E (114000) (yf)), (wb, aB E (115000) (fk2))] 0 0 219 [(0, .ref m), (2, .int x19), (4, .int n4)] [.int z, .ref m] := by
                        intro z hzz
                        refine g_callV C r mv_X4_121 dX4_write_219 (c_X4_say g.l E m wb fk2 zk2 (ldL lf (alls fl) (bas fl) n ++ (if n + 5 = 12 then dg (bas fl) 5 else [])) (.int x1) (z1) (z2) (z3) (.int te) (.ref lb) (.ref tb) (.ref yb) (.ref sb) (.int nf) (z10) (z11) (z12) (z15) z hz2 hb2 (by first | omega | (simp only [List.length_append, List.length_cons, List.length_nil, dg_len, drN_len, fdN_len, ldL_19]; omega))) (wr := [(lb, aB E (24) (lf)), (tb, aI E (60) (tf)), (sb, aI E (60) (sf)), (yb, aB E (114000) (yf))]) (As := [.int z]) (rest := []) (Spl.at [1, 2, 3, 4] [0, 5] rfl rfl rfl) 0 rfl rfl rfl rfl (Nat.le_of_ble_eq_true rfl) (by decide) (Nat.le_refl _) (Nat.le_refl _) (fun v w h => ?_)
                        obtain ⟨rfl, f219, s219, es219, eb219, rfl⟩ := h
                        change G E g [(lb, aB E (24) (lf)), (tb, aI E (60) (tf)), (sb, aI E (60) (sf)), (yb, aB E (114000) (yf)), (m, .inr (6, [.int x1, z1, z2, z3, .int te, .ref lb, .ref tb, .ref yb, .ref sb, .int nf, z10, z11, z12, .ref wb, .int s219, z15])), (wb, aB E (115000) (f219))] _ _ _ _ []
                        refine g_iinc C dX4_write_222 2 rfl (by rw [hN]; decide) (by decide) (by omega) (fun x222 e222 => ?_)
                        refine g_lvE (lv' := [(4, .int x222), (0, .ref m), (2, .int x19)]) rfl ?_
                        refine g_goto C 134 dX4_write_225 (by decide) ?_
                        refine g_lv [1, 2, 0] (lv' := [(0, .ref m), (2, .int x19), (4, .int x222)]) rfl ?_
                        refine g_perm [4, 0, 1, 2, 3, 5] rfl (ws' := [(m, .inr (6, [.int x1, z1, z2, z3, .int te, .ref lb, .ref tb, .ref yb, .ref sb, .int nf, z10, z11, z12, .ref wb, .int s219, z15])), (lb, aB E (24) (lf)), (tb, aI E (60) (tf)), (sb, aI E (60) (sf)), (yb, aB E (114000) (yf)), (wb, aB E (115000) (f219))]) rfl ?_
                        exact ih134 (x222) (s219) (f219) (n + 1) (by omega) (by omega) (by omega) (by rw [ldL_b hsay, ← hzz]; exact es219) (by rw [ldL_b hsay, ← hzz]; exact eb219)
                      refine g_aload_n C dX4_write_168 0 rfl ?_
                      refine g_iload C dX4_write_169 2 rfl ?_
                      refine g_bipush C dX4_write_171 (by decide) (fun x171 e171 => ?_)
                      refine g_icmp_eq C 183 dX4_write_173 (by decide) (fun c173 => ?_) (fun c173 => ?_)
                      · refine g_bipush C dX4_write_183 (by decide) (fun x183 e183 => ?_)
                        refine g_goto C 219 dX4_write_185 (by decide) ?_
                        refine g_lv [0, 1, 2] (lv' := [(0, .ref m), (2, .int x19), (4, .int n4)]) rfl ?_
                        exact J219 (x183) (by rw [ldB_50 (by omega)]; exact u8_of e183 (by omega))
                      · refine g_iload C dX4_write_176 2 rfl ?_
                        refine g_bipush C dX4_write_178 (by decide) (fun x178 e178 => ?_)
                        refine g_icmp_ne C 188 dX4_write_180 (by decide) (fun c180 => ?_) (fun c180 => ?_)
                        · refine g_iload C dX4_write_188 2 rfl ?_
                          refine g_bipush C dX4_write_190 (by decide) (fun x190 e190 => ?_)
                          refine g_icmp_ne C 200 dX4_write_192 (by decide) (fun c192 => ?_) (fun c192 => ?_)
                          · refine g_iload C dX4_write_200 2 rfl ?_
                            refine g_bipush C dX4_write_202 (by decide) (fun x202 e202 => ?_)
                            refine g_icmp_ne C 212 dX4_write_204 (by decide) (fun c204 => ?_) (fun c204 => ?_)
                            · refine g_aload_n C dX4_write_212 0 rfl ?_
                              refine gf_X4_13 C 0 rfl rfl dX4_write_213 ?_
                              refine g_iload C dX4_write_216 2 rfl ?_
                              refine g_baload C 1 rfl dX4_write_218 (n + 5) (by omega) (by omega) (fun x218 e218 => ?_)
                              refine g_lv [0, 1, 2] (lv' := [(0, .ref m), (2, .int x19), (4, .int n4)]) rfl ?_
                              exact J219 (x218) (by rw [ldB_o (by omega), e218])
                            · refine g_bipush C dX4_write_207 (by decide) (fun x207 e207 => ?_)
                              refine g_goto C 219 dX4_write_209 (by decide) ?_
                              refine g_lv [0, 1, 2] (lv' := [(0, .ref m), (2, .int x19), (4, .int n4)]) rfl ?_
                              exact J219 (x207) (by rw [ldB_53 (by omega)]; exact u8_of e207 (by omega))
                          · refine g_bipush C dX4_write_195 (by decide) (fun x195 e195 => ?_)
                            refine g_goto C 219 dX4_write_197 (by decide) ?_
                            refine g_lv [0, 1, 2] (lv' := [(0, .ref m), (2, .int x19), (4, .int n4)]) rfl ?_
                            exact J219 (x195) (by rw [ldB_52 (by omega)]; exact u8_of e195 (by omega))
                        · refine g_bipush C dX4_write_183 (by decide) (fun x183 e183 => ?_)
                          refine g_goto C 219 dX4_write_185 (by decide) ?_
                          refine g_lv [0, 1, 2] (lv' := [(0, .ref m), (2, .int x19), (4, .int n4)]) rfl ?_
                          exact J219 (x183) (by rw [ldB_50 (by omega)]; exact u8_of e183 (by omega))
                    refine g_iload C dX4_write_154 2 rfl ?_
                    refine g_bipush C dX4_write_156 (by decide) (fun x156 e156 => ?_)
                    refine g_icmp_lt C 168 dX4_write_158 (by decide) (fun c158 => ?_) (fun c158 => ?_)
                    · refine g_lv [0, 1, 2] (lv' := [(0, .ref m), (2, .int x19), (4, .int n4)]) rfl ?_
                      exact J168 trivial (by omega)
                    · refine g_iload C dX4_write_161 2 rfl ?_
                      refine g_bipush C dX4_write_163 (by decide) (fun x163 e163 => ?_)
                      refine g_icmp_le C 222 dX4_write_165 (by decide) (fun c165 => ?_) (fun c165 => ?_)
                      · refine g_iinc C dX4_write_222 2 rfl (by rw [hN]; decide) (by decide) (by omega) (fun x222 e222 => ?_)
                        refine g_lvE (lv' := [(4, .int x222), (0, .ref m), (2, .int x19)]) rfl ?_
                        refine g_goto C 134 dX4_write_225 (by decide) ?_
                        refine g_lv [1, 2, 0] (lv' := [(0, .ref m), (2, .int x19), (4, .int x222)]) rfl ?_
                        exact ih134 (x222) (zk2) (fk2) (n + 1) (by omega) (by omega) (by omega) (by rw [ldL_a (by omega)]; exact hz2) (by rw [ldL_a (by omega)]; exact hb2)
                      · refine g_lv [0, 1, 2] (lv' := [(0, .ref m), (2, .int x19), (4, .int n4)]) rfl ?_
                        exact J168 trivial (by omega)
                  refine g_iload C dX4_write_141 2 rfl ?_
                  refine g_bipush C dX4_write_143 (by decide) (fun x143 e143 => ?_)
                  refine g_icmp_ne C 154 dX4_write_145 (by decide) (fun c145 => ?_) (fun c145 => ?_)
                  · refine g_lv [0, 1, 2] (lv' := [(0, .ref m), (2, .int x19), (4, .int n4)]) rfl ?_
                    exact J154 (zk) (fk) (by rw [if_neg (by omega), List.append_nil]; exact hz) (by rw [if_neg (by omega), List.append_nil]; exact hb)
                  · refine g_aload_n C dX4_write_148 0 rfl ?_
                    refine g_iload_n C dX4_write_149 1 rfl ?_
                    refine g_iconst C dX4_write_150 (by decide) (fun x150 e150 => ?_)
                    refine g_callV C r mv_X4_125 dX4_write_151 (c_X4_sayNumber g.l E m wb fk zk (ldL lf (alls fl) (bas fl) n) (.int x1) (z1) (z2) (z3) (.int te) (.ref lb) (.ref tb) (.ref yb) (.ref sb) (.int nf) (z10) (z11) (z12) (z15) x19 x150 (bas fl) 5 hz hb hx2 (by omega) (by omega) (by first | omega | (simp only [List.length_append, List.length_cons, List.length_nil, dg_len, drN_len, fdN_len, ldL_19]; omega))) (wr := [(lb, aB E (24) (lf)), (tb, aI E (60) (tf)), (sb, aI E (60) (sf)), (yb, aB E (114000) (yf))]) (As := [.int x19, .int x150]) (rest := []) (Spl.at [1, 2, 3, 4] [0, 5] rfl rfl rfl) 0 rfl rfl rfl rfl (Nat.le_of_ble_eq_true rfl) (by decide) (Nat.le_refl _) (Nat.le_refl _) (fun v w h => ?_)
                    obtain ⟨rfl, f151, s151, es151, eb151, rfl⟩ := h
                    change G E g [(lb, aB E (24) (lf)), (tb, aI E (60) (tf)), (sb, aI E (60) (sf)), (yb, aB E (114000) (yf)), (m, .inr (6, [.int x1, z1, z2, z3, .int te, .ref lb, .ref tb, .ref yb, .ref sb, .int nf, z10, z11, z12, .ref wb, .int s151, z15])), (wb, aB E (115000) (f151))] _ _ _ _ []
                    refine g_lv [0, 1, 2] (lv' := [(0, .ref m), (2, .int x19), (4, .int n4)]) rfl ?_
                    refine g_perm [4, 0, 1, 2, 3, 5] rfl (ws' := [(m, .inr (6, [.int x1, z1, z2, z3, .int te, .ref lb, .ref tb, .ref yb, .ref sb, .int nf, z10, z11, z12, .ref wb, .int s151, z15])), (lb, aB E (24) (lf)), (tb, aI E (60) (tf)), (sb, aI E (60) (sf)), (yb, aB E (114000) (yf)), (wb, aB E (115000) (f151))]) rfl ?_
                    exact J154 (s151) (f151) (by rw [if_pos (by omega)]; exact es151) (by rw [if_pos (by omega)]; exact eb151)
            refine g_lv [1, 3, 0] (lv' := [(0, .ref m), (2, .int x19), (4, .int x131)]) rfl ?_
            refine g_perm [4, 0, 1, 2, 3, 5] rfl (ws' := [(m, .inr (6, [.int x1, z1, z2, z3, .int te, .ref lb, .ref tb, .ref yb, .ref sb, .int nf, z10, z11, z12, .ref wb, .int s128, z15])), (lb, aB E (24) (lf)), (tb, aI E (60) (tf)), (sb, aI E (60) (sf)), (yb, aB E (114000) (yf)), (wb, aB E (115000) (f128))]) rfl ?_
            exact loop134 _ (x131) (s128) (f128) (0) (Nat.lt_succ_self _) (by omega) (by omega) (by exact es128) (by exact eb128)
          · refine g_iconst C dX4_write_118 (by decide) (fun x118 e118 => ?_)
            exact g_iret C F dX4_write_119 rfl rfl (Nat.le_refl _) (Nat.le_refl _) (by exact ⟨_, _, _, _, rfl, e1, Or.inr ⟨fun h => h.1 c41, by omega, rfl, rfl⟩, rfl⟩)
        · obtain ⟨hn1, hMF⟩ := hM.in c41
          obtain ⟨hT, hL, hBs⟩ := hMF k (by omega)
          obtain ⟨hW1, hW2, hW3, hW4, hW5⟩ := hF.2 k (by omega)
          have hte1 : te.toInt = 1 := by omega
          have hsk := stt_le hF (k + 1) (by omega)
          simp only [stt] at hsk
          have J93 : ∀ (z : Int32) (hc93 : (te.toInt = 0 ∧ z.toInt = 0) ∨ (te.toInt = 1 ∧ z.toInt = 1 ∧ cn fl (k + 1) = true) ∨ (te.toInt = 1 ∧ z.toInt = 0 ∧ cn fl (k + 1) = false)), G E g [(m, .inr (6, [.int x1, z1, z2, z3, .int te, .ref lb, .ref tb, .ref yb, .ref sb, .int nf, z10, z11, z12, .ref wb, .int wz, z15])), (lb, aB E (24) (lf)), (tb, aI E (60) (tf)), (sb, aI E (60) (sf)), (yb, aB E (114000) (yf)), (wb, aB E (115000) (wf))] 0 0 93 [(0, .ref m), (1, .int n1), (2, .int x19), (3, .int n3), (4, .int n4)] [.int z] := by
            intro z hc93
            refine g_istore_n C dX4_write_93 (by rw [hN]; decide) (lv' := [(1, .int z), (0, .ref m), (2, .int x19), (3, .int n3), (4, .int n4)]) rfl ?_
            refine g_iload_n C dX4_write_94 3 rfl ?_
            refine g_aload_n C dX4_write_95 1 rfl ?_
            refine gf_X4_24 C 0 rfl rfl dX4_write_96 ?_
            refine g_iload C dX4_write_99 4 rfl ?_
            refine g_iconst C dX4_write_101 (by decide) (fun x101 e101 => ?_)
            refine g_isub C dX4_write_102 (by omega) (fun x102 e102 => ?_)
            refine g_iaload C 3 rfl dX4_write_103 (k) (by omega) (by omega) (fun x103 e103 => ?_)
            have t103 := congrArg Int32.toInt e103
            refine g_iconst C dX4_write_104 (by decide) (fun x104 e104 => ?_)
            refine g_iadd C dX4_write_105 (by omega) (fun x105 e105 => ?_)
            refine g_iadd C dX4_write_106 (by omega) (fun x106 e106 => ?_)
            refine g_istore_n C dX4_write_107 (by rw [hN]; decide) (lv' := [(3, .int x106), (1, .int z), (0, .ref m), (2, .int x19), (4, .int n4)]) rfl ?_
            refine g_iinc C dX4_write_108 4 rfl (by rw [hN]; decide) (by decide) (by omega) (fun x108 e108 => ?_)
            refine g_lvE (lv' := [(4, .int x108), (3, .int x106), (1, .int z), (0, .ref m), (2, .int x19)]) rfl ?_
            refine g_goto C 28 dX4_write_111 (by decide) ?_
            refine g_lv [3, 2, 4, 1, 0] (lv' := [(0, .ref m), (1, .int z), (2, .int x19), (3, .int x106), (4, .int x108)]) rfl ?_
            exact ih28 (z) (x106) (x108) (k + 1) (by omega) (by omega) (by omega) (by intro _; simp only [stt]; omega) (by exact hc93)
          refine g_iload_n C dX4_write_44 1 rfl ?_
          refine g_if_eq C 92 dX4_write_45 (by decide) (fun c45 => ?_) (fun c45 => ?_)
          · refine g_iconst C dX4_write_92 (by decide) (fun x92 e92 => ?_)
            refine g_lv [0, 1, 2, 3, 4] (lv' := [(0, .ref m), (1, .int n1), (2, .int x19), (3, .int n3), (4, .int n4)]) rfl ?_
            exact J93 (x92) (by exact Or.inr (Or.inr ⟨hte1, by omega, cn_f (Or.inl (by rcases h1 with h | h | h; omega; omega; exact h.2.2))⟩))
          · have hcn : cn fl k = true := by rcases h1 with h | h | h; omega; exact h.2.2; omega
            refine g_aload_n C dX4_write_48 0 rfl ?_
            refine gf_X4_16 C 0 rfl rfl dX4_write_49 ?_
            refine g_iload C dX4_write_52 4 rfl ?_
            refine g_iconst C dX4_write_54 (by decide) (fun x54 e54 => ?_)
            refine g_isub C dX4_write_55 (by omega) (fun x55 e55 => ?_)
            refine g_iaload C 2 rfl dX4_write_56 (k) (by omega) (by omega) (fun x56 e56 => ?_)
            have t56 := congrArg Int32.toInt e56
            refine g_bipush C dX4_write_57 (by decide) (fun x57 e57 => ?_)
            refine g_icmp_lt C 88 dX4_write_59 (by decide) (fun c59 => ?_) (fun c59 => ?_)
            · refine g_iconst C dX4_write_88 (by decide) (fun x88 e88 => ?_)
              refine g_goto C 93 dX4_write_89 (by decide) ?_
              refine g_lv [0, 1, 2, 3, 4] (lv' := [(0, .ref m), (1, .int n1), (2, .int x19), (3, .int n3), (4, .int n4)]) rfl ?_
              exact J93 (x88) (by exact Or.inr (Or.inl ⟨hte1, by omega, cn_t hcn (Or.inl (by omega))⟩))
            · refine g_aload_n C dX4_write_62 0 rfl ?_
              refine g_iload C dX4_write_63 4 rfl ?_
              refine g_iconst C dX4_write_65 (by decide) (fun x65 e65 => ?_)
              refine g_callV C r mv_X4_104 dX4_write_66 (c_X4_at g.l E m yb yf n4 x65 (k) (0) (.int x1) (z1) (z2) (z3) (.int te) (.ref lb) (.ref tb) (.ref sb) (.int nf) (z10) (z11) (z12) (.ref wb) (.int wz) (z15) (by omega) (by omega) (by omega) (by omega)) (wr := [(lb, aB E (24) (lf)), (tb, aI E (60) (tf)), (sb, aI E (60) (sf)), (wb, aB E (115000) (wf))]) (As := [.int n4, .int x65]) (rest := []) (Spl.at [1, 2, 3, 5] [0, 4] rfl rfl rfl) 0 rfl rfl rfl rfl (Nat.le_of_ble_eq_true rfl) (by decide) (Nat.le_refl _) (Nat.le_refl _) (fun v w h => ?_)
              obtain ⟨x66, rfl, e66, rfl⟩ := h
              change G E g [(lb, aB E (24) (lf)), (tb, aI E (60) (tf)), (sb, aI E (60) (sf)), (wb, aB E (115000) (wf)), (m, .inr (6, [.int x1, z1, z2, z3, .int te, .ref lb, .ref tb, .ref yb, .ref sb, .int nf, z10, z11, z12, .ref wb, .int wz, z15])), (yb, aB E (114000) (yf))] _ _ _ _ [.int x66]
              rw [Bs_at hBs hW2 (by omega)] at e66
              refine g_callS C r ms_X4_58 dX4_write_69 (c_X4_isMark g.l E x66) (wr := [(lb, aB E (24) (lf)), (tb, aI E (60) (tf)), (sb, aI E (60) (sf)), (wb, aB E (115000) (wf)), (m, .inr (6, [.int x1, z1, z2, z3, .int te, .ref lb, .ref tb, .ref yb, .ref sb, .int nf, z10, z11, z12, .ref wb, .int wz, z15])), (yb, aB E (114000) (yf))]) (As := [.int x66]) (rest := []) (Spl.at [0, 1, 2, 3, 4, 5] [] rfl rfl rfl) rfl (Nat.le_of_ble_eq_true rfl) (by decide) (Nat.le_refl _) (Nat.le_refl _) (fun v w h => ?_)
              obtain ⟨x69, rfl, e69, rfl⟩ := h
              change G E g [(lb, aB E (24) (lf)), (tb, aI E (60) (tf)), (sb, aI E (60) (sf)), (wb, aB E (115000) (wf)), (m, .inr (6, [.int x1, z1, z2, z3, .int te, .ref lb, .ref tb, .ref yb, .ref sb, .int nf, z10, z11, z12, .ref wb, .int wz, z15])), (yb, aB E (114000) (yf))] _ _ _ _ [.int x69]
              refine g_if_ne C 92 dX4_write_72 (by decide) (fun c72 => ?_) (fun c72 => ?_)
              · replace e69 := bl1 e69 c72
                refine g_iconst C dX4_write_92 (by decide) (fun x92 e92 => ?_)
                refine g_lv [0, 1, 2, 3, 4] (lv' := [(0, .ref m), (1, .int n1), (2, .int x19), (3, .int n3), (4, .int n4)]) rfl ?_
                refine g_perm [4, 0, 1, 2, 5, 3] rfl (ws' := [(m, .inr (6, [.int x1, z1, z2, z3, .int te, .ref lb, .ref tb, .ref yb, .ref sb, .int nf, z10, z11, z12, .ref wb, .int wz, z15])), (lb, aB E (24) (lf)), (tb, aI E (60) (tf)), (sb, aI E (60) (sf)), (yb, aB E (114000) (yf)), (wb, aB E (115000) (wf))]) rfl ?_
                exact J93 (x92) (by exact Or.inr (Or.inr ⟨hte1, by omega, cn_f (Or.inr ⟨by omega, Or.inl (by omega)⟩)⟩))
              · replace e69 := bl0 e69 c72
                refine g_aload_n C dX4_write_75 0 rfl ?_
                refine g_iload C dX4_write_76 4 rfl ?_
                refine g_iconst C dX4_write_78 (by decide) (fun x78 e78 => ?_)
                refine g_callV C r mv_X4_104 dX4_write_79 (c_X4_at g.l E m yb yf n4 x78 (k) (1) (.int x1) (z1) (z2) (z3) (.int te) (.ref lb) (.ref tb) (.ref sb) (.int nf) (z10) (z11) (z12) (.ref wb) (.int wz) (z15) (by omega) (by omega) (by omega) (by omega)) (wr := [(lb, aB E (24) (lf)), (tb, aI E (60) (tf)), (sb, aI E (60) (sf)), (wb, aB E (115000) (wf))]) (As := [.int n4, .int x78]) (rest := []) (Spl.at [0, 1, 2, 3] [4, 5] rfl rfl rfl) 0 rfl rfl rfl rfl (Nat.le_of_ble_eq_true rfl) (by decide) (Nat.le_refl _) (Nat.le_refl _) (fun v w h => ?_)
                obtain ⟨x79, rfl, e79, rfl⟩ := h
                change G E g [(lb, aB E (24) (lf)), (tb, aI E (60) (tf)), (sb, aI E (60) (sf)), (wb, aB E (115000) (wf)), (m, .inr (6, [.int x1, z1, z2, z3, .int te, .ref lb, .ref tb, .ref yb, .ref sb, .int nf, z10, z11, z12, .ref wb, .int wz, z15])), (yb, aB E (114000) (yf))] _ _ _ _ [.int x79]
                rw [Bs_at hBs hW2 (by omega)] at e79
                refine g_callS C r ms_X4_58 dX4_write_82 (c_X4_isMark g.l E x79) (wr := [(lb, aB E (24) (lf)), (tb, aI E (60) (tf)), (sb, aI E (60) (sf)), (wb, aB E (115000) (wf)), (m, .inr (6, [.int x1, z1, z2, z3, .int te, .ref lb, .ref tb, .ref yb, .ref sb, .int nf, z10, z11, z12, .ref wb, .int wz, z15])), (yb, aB E (114000) (yf))]) (As := [.int x79]) (rest := []) (Spl.at [0, 1, 2, 3, 4, 5] [] rfl rfl rfl) rfl (Nat.le_of_ble_eq_true rfl) (by decide) (Nat.le_refl _) (Nat.le_refl _) (fun v w h => ?_)
                obtain ⟨x82, rfl, e82, rfl⟩ := h
                change G E g [(lb, aB E (24) (lf)), (tb, aI E (60) (tf)), (sb, aI E (60) (sf)), (wb, aB E (115000) (wf)), (m, .inr (6, [.int x1, z1, z2, z3, .int te, .ref lb, .ref tb, .ref yb, .ref sb, .int nf, z10, z11, z12, .ref wb, .int wz, z15])), (yb, aB E (114000) (yf))] _ _ _ _ [.int x82]
                refine g_if_ne C 92 dX4_write_85 (by decide) (fun c85 => ?_) (fun c85 => ?_)
                · replace e82 := bl1 e82 c85
                  refine g_iconst C dX4_write_92 (by decide) (fun x92 e92 => ?_)
                  refine g_lv [0, 1, 2, 3, 4] (lv' := [(0, .ref m), (1, .int n1), (2, .int x19), (3, .int n3), (4, .int n4)]) rfl ?_
                  refine g_perm [4, 0, 1, 2, 5, 3] rfl (ws' := [(m, .inr (6, [.int x1, z1, z2, z3, .int te, .ref lb, .ref tb, .ref yb, .ref sb, .int nf, z10, z11, z12, .ref wb, .int wz, z15])), (lb, aB E (24) (lf)), (tb, aI E (60) (tf)), (sb, aI E (60) (sf)), (yb, aB E (114000) (yf)), (wb, aB E (115000) (wf))]) rfl ?_
                  exact J93 (x92) (by exact Or.inr (Or.inr ⟨hte1, by omega, cn_f (Or.inr ⟨by omega, Or.inr (by omega)⟩)⟩))
                · replace e82 := bl0 e82 c85
                  refine g_iconst C dX4_write_88 (by decide) (fun x88 e88 => ?_)
                  refine g_goto C 93 dX4_write_89 (by decide) ?_
                  refine g_lv [0, 1, 2, 3, 4] (lv' := [(0, .ref m), (1, .int n1), (2, .int x19), (3, .int n3), (4, .int n4)]) rfl ?_
                  refine g_perm [4, 0, 1, 2, 5, 3] rfl (ws' := [(m, .inr (6, [.int x1, z1, z2, z3, .int te, .ref lb, .ref tb, .ref yb, .ref sb, .int nf, z10, z11, z12, .ref wb, .int wz, z15])), (lb, aB E (24) (lf)), (tb, aI E (60) (tf)), (sb, aI E (60) (sf)), (yb, aB E (114000) (yf)), (wb, aB E (115000) (wf))]) rfl ?_
                  exact J93 (x88) (by exact Or.inr (Or.inl ⟨hte1, by omega, cn_t hcn (Or.inr ⟨by omega, by omega⟩)⟩))
  refine g_lv [4, 3, 2, 1, 0] (lv' := [(0, .ref m), (1, .int te), (2, .int x19), (3, .int x23), (4, .int x25)]) rfl ?_
  exact loop28 _ (te) (x23) (x25) (0) (Nat.lt_succ_self _) (by omega) (by omega) (by intro h; have := hin h; unfold bas; simp only [stt]; omega) (by rcases hte with h | h; exact Or.inl ⟨h, h⟩; exact Or.inr (Or.inl ⟨h, h, rfl⟩))
