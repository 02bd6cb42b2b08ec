set_option maxHeartbeats 4000000 in
set_option maxRecDepth 10000 in
theorem c_X3_write (l : Launch) (E : GE) (x op ob cap lb fa : Nat) (of lf : Nat → Int32) (os : Int32) (ga : Nat → Option Nat) (fo : Nat → Nat) (fd : Nat → FV) (fl : FL) (pr fc : Int32) (z0 z4 z5 : Value) (hX : XPr pr fc fd fl) (hF : FW fl) (hga : ∀ j, j < 60 → ga j = some (fo j)) (hcp : cap ≤ 220000) : Ctr l E yX3_write cX3_write 4 (some .int) 4 (1) (2 * (wrC pr fl cap - cap)) [.ref x] ([(x, .inr (5, [z0, .ref op, .ref lb, .ref fa, z4, z5, .int pr, .int fc])), (op, .inr (4, [.ref ob, .int os])), (ob, aB E (cap) (of)), (lb, aB E (24) (lf)), (fa, aF E (60) (ga))] ++ zz E fo fd R60) (fun v w => ∃ (r0 os2 : Int32) (q : Nat) (f2 : Nat → Int32), v = some (.int r0) ∧ (((pr.toInt ≠ 0 ∧ cn fl fl.length = true) ∧ r0.toInt = ((frm lf fl).length : Int) ∧ os2.toInt = ((frm lf fl).length : Int) ∧ Bs f2 0 (frm lf fl)) ∨ (¬ (pr.toInt ≠ 0 ∧ cn fl fl.length = true) ∧ r0.toInt = -1 ∧ q = ob ∧ os2 = os ∧ f2 = of)) ∧ w = ([(x, .inr (5, [z0, .ref op, .ref lb, .ref fa, z4, z5, .int pr, .int fc])), (op, .inr (4, [.ref q, .int os2])), (q, aB E (wrC pr fl cap) (f2)), (lb, aB E (24) (lf)), (fa, aF E (60) (ga))] ++ zz E fo fd R60)) := by
  refine Ctr.intro (by decide) (Nat.le_of_ble_eq_true rfl) (fun g hgl hN C r F hi => ?_)
  subst hgl
  have hfl := hF.1
  obtain ⟨hpr, hfc, hXF, hFG⟩ := hX
  have hal := alls_le hF
  have hst := stt_le hF fl.length (Nat.le_refl _)
  have hbas : bas fl = 25 + 12 * fl.length := rfl
  have hall : alls fl = bas fl + 1 + stt fl fl.length := rfl
  change G E g ([(x, .inr (5, [z0, .ref op, .ref lb, .ref fa, z4, z5, .int pr, .int fc])), (op, .inr (4, [.ref ob, .int os])), (ob, aB E (cap) (of)), (lb, aB E (24) (lf)), (fa, aF E (60) (ga))] ++ zz E fo fd R60) 0 0 0 [(0, .ref x)] []
  refine g_aload_n C dX3_write_0 0 rfl ?_
  refine gf_X3_42 C 0 rfl rfl dX3_write_1 ?_
  refine g_if_eq C 14 dX3_write_4 (by decide) (fun c4 => ?_) (fun c4 => ?_)
  · refine g_iconst C dX3_write_14 (by decide) (fun x14 e14 => ?_)
    skip
    exact g_iret C F dX3_write_15 rfl rfl (by omega) (by omega) (by rw [show wrC pr fl cap = cap from if_neg (fun h => h.1 (by omega))]; exact ⟨_, _, _, _, rfl, Or.inr ⟨(fun h => h.1 (by omega)), by omega, rfl, rfl, rfl⟩, rfl⟩)
  · refine g_aload_n C dX3_write_7 0 rfl ?_
    refine g_callV C r mv_X3_135 dX3_write_8 (c_X3_hasMarkAsIndicator g.l E x fa ga fo fd fl pr fc (z0) (.ref op) (.ref lb) (z4) (z5) ⟨hpr, hfc, hXF, hFG⟩ hF hga) (wr := [(op, .inr (4, [.ref ob, .int os])), (ob, aB E (cap) (of)), (lb, aB E (24) (lf))]) (As := []) (rest := []) (Spl.atP [1, 2, 3] [0, 4] rfl rfl rfl) 0 rfl rfl rfl rfl (Nat.le_of_ble_eq_true rfl) (by decide) (by omega) (by omega) (fun v w h => ?_)
    obtain ⟨x8, rfl, e8, rfl⟩ := h
    change G E g ([(op, .inr (4, [.ref ob, .int os])), (ob, aB E (cap) (of)), (lb, aB E (24) (lf)), (x, .inr (5, [z0, .ref op, .ref lb, .ref fa, z4, z5, .int pr, .int fc])), (fa, aF E (60) (ga))] ++ zz E fo fd R60) _ _ _ _ [.int x8]
    refine g_if_eq C 16 dX3_write_11 (by decide) (fun c11 => ?_) (fun c11 => ?_)
    · have hcn : cn fl fl.length = true := by rcases e8 with h | h; omega; exact h.2
      clear e8
      refine g_bipush C dX3_write_16 (by decide) (fun x16 e16 => ?_)
      refine g_bipush C dX3_write_18 (by decide) (fun x18 e18 => ?_)
      refine g_aload_n C dX3_write_20 0 rfl ?_
      refine gf_X3_46 C 3 rfl rfl dX3_write_21 ?_
      refine g_imul C dX3_write_24 (12 * fc.toInt) (by rw [e18]) (by omega) (fun x24 e24 => ?_)
      refine g_iadd C dX3_write_25 (by omega) (fun x25 e25 => ?_)
      refine g_istore_n C dX3_write_26 (by rw [hN]; decide) (lv' := [(1, .int x25), (0, .ref x)]) rfl ?_
      refine g_iload_n C dX3_write_27 0 rfl ?_
      refine g_iconst C dX3_write_28 (by decide) (fun x28 e28 => ?_)
      refine g_iadd C dX3_write_29 (by omega) (fun x29 e29 => ?_)
      refine g_istore_n C dX3_write_30 (by rw [hN]; decide) (lv' := [(2, .int x29), (1, .int x25), (0, .ref x)]) rfl ?_
      refine g_iconst C dX3_write_31 (by decide) (fun x31 e31 => ?_)
      refine g_istore_n C dX3_write_32 (by rw [hN]; decide) (lv' := [(3, .int x31), (2, .int x29), (1, .int x25), (0, .ref x)]) rfl ?_
      have loop33 : ∀ (nn : Nat) (n2 : Int32) (n3 : Int32) (k : Nat) (hm : fl.length - k < nn) (hk : k ≤ fl.length) (hp : n3.toInt = (k : Int)) (h2 : n2.toInt = ((bas fl + 1 + stt fl k : Nat) : Int)), G E g ([(x, .inr (5, [z0, .ref op, .ref lb, .ref fa, z4, z5, .int pr, .int fc])), (op, .inr (4, [.ref ob, .int os])), (ob, aB E (cap) (of)), (lb, aB E (24) (lf)), (fa, aF E (60) (ga))] ++ zz E fo fd R60) 0 0 33 [(0, .ref x), (1, .int x25), (2, .int n2), (3, .int n3)] [] := by
        intro nn
        induction nn with
        | zero => intro n2 n3 k hm hk hp h2; omega
        | succ nn ih33 =>
          intro n2 n3 k hm hk hp h2
          have hsk := stt_mono fl hk
          refine g_iload_n C dX3_write_33 3 rfl ?_
          refine g_aload_n C dX3_write_34 0 rfl ?_
          refine gf_X3_46 C 0 rfl rfl dX3_write_35 ?_
          refine g_icmp_ge C 59 dX3_write_38 (by decide) (fun c38 => ?_) (fun c38 => ?_)
          · obtain rfl : k = fl.length := by omega
            have hx64 : n2.toInt = (alls fl : Int) := by omega
            have hok : pr.toInt ≠ 0 ∧ cn fl fl.length = true := ⟨by omega, hcn⟩
            have hwc : wrC pr fl cap = ocap cap (alls fl) := if_pos hok
            obtain ⟨o1, o2, o3, o4⟩ := ocap_le (cap := cap) (t := alls fl)
            replace o3 := o3 hcp hal
            have hm64 : alls fl ≤ cap ∨ (1 ≤ 1 ∧ max (alls fl) (2 * cap) ≤ 2 * (wrC pr fl cap - cap)) := by rw [hwc]; by_cases q : alls fl ≤ cap; exact Or.inl q; exact Or.inr ⟨Nat.le_refl _, o4 q⟩
            clear o4 hk hp hm ih33 h2 hsk
            refine g_aload_n C dX3_write_59 0 rfl ?_
            refine gf_X3_19 C 0 rfl rfl dX3_write_60 ?_
            refine g_iload_n C dX3_write_63 2 rfl ?_
            refine g_callV C r mv_X3_142 dX3_write_64 (c_X2_begin2 g.l E op ob cap of os n2 (alls fl) 1 (2 * (wrC pr fl cap - cap)) hx64 (by omega) (by omega) hm64) (wr := ([(x, .inr (5, [z0, .ref op, .ref lb, .ref fa, z4, z5, .int pr, .int fc])), (lb, aB E (24) (lf)), (fa, aF E (60) (ga))] ++ zz E fo fd R60)) (As := [.int n2]) (rest := []) (Spl.atZ [0, 3, 4] [1, 2] rfl rfl rfl) 0 rfl rfl rfl rfl (Nat.le_of_ble_eq_true rfl) (by decide) (by omega) (by omega) (fun v w h => ?_)
            obtain ⟨rfl, q64, f64, s64, es64, rfl⟩ := h
            refine g_tail ?_
            change G E g ([(x, .inr (5, [z0, .ref op, .ref lb, .ref fa, z4, z5, .int pr, .int fc])), (lb, aB E (24) (lf)), (fa, aF E (60) (ga)), (op, .inr (4, [.ref q64, .int s64])), (q64, aB E ((ocap cap (alls fl))) (f64))] ++ zz E fo fd R60) _ _ _ _ []
            refine g_aload_n C dX3_write_67 0 rfl ?_
            refine g_iload_n C dX3_write_68 2 rfl ?_
            refine g_iload_n C dX3_write_69 1 rfl ?_
            refine g_callV C r mv_X3_144 dX3_write_70 (c_X3_emitLeader g.l E x op q64 (ocap cap (alls fl)) f64 s64 lb lf n2 x25 (alls fl) (bas fl) (z0) (.ref fa) (z4) (z5) (.int pr) (.int fc) es64 (by omega) (by omega) (by omega) (by omega) (by omega) (by omega)) (wr := ([(fa, aF E (60) (ga))] ++ zz E fo fd R60)) (As := [.int n2, .int x25]) (rest := []) (Spl.atZ [2] [0, 3, 4, 1] rfl rfl rfl) 0 rfl rfl rfl rfl (Nat.le_of_ble_eq_true rfl) (by decide) (by omega) (by omega) (fun v w h => ?_)
            obtain ⟨rfl, f70, s70, es70, eb70, rfl⟩ := h
            refine g_tail ?_
            change G E g ([(fa, aF E (60) (ga)), (x, .inr (5, [z0, .ref op, .ref lb, .ref fa, z4, z5, .int pr, .int fc])), (op, .inr (4, [.ref q64, .int s70])), (q64, aB E ((ocap cap (alls fl))) (f70)), (lb, aB E (24) (lf))] ++ zz E fo fd R60) _ _ _ _ []
            refine g_aload_n C dX3_write_73 0 rfl ?_
            refine g_callV C r mv_X3_148 dX3_write_74 (c_X3_emitDirectory g.l E x op q64 (ocap cap (alls fl)) f70 s70 (ldL lf (alls fl) (bas fl) 19) fa ga fo fd fl pr fc (z0) (.ref lb) (z4) (z5) es70 eb70 (by omega) ⟨hpr, hfc, hXF, hFG⟩ hF hga (by rw [ldL_19]; omega)) (wr := [(lb, aB E (24) (lf))]) (As := []) (rest := []) (Spl.atP [4] [1, 2, 3, 0] rfl rfl rfl) 0 rfl rfl rfl rfl (Nat.le_of_ble_eq_true rfl) (by decide) (by omega) (by omega) (fun v w h => ?_)
            obtain ⟨rfl, f74, s74, es74, eb74, rfl⟩ := h
            change G E g ([(lb, aB E (24) (lf)), (x, .inr (5, [z0, .ref op, .ref lb, .ref fa, z4, z5, .int pr, .int fc])), (op, .inr (4, [.ref q64, .int s74])), (q64, aB E ((ocap cap (alls fl))) (f74)), (fa, aF E (60) (ga))] ++ zz E fo fd R60) _ _ _ _ []
            refine g_iconst C dX3_write_77 (by decide) (fun x77 e77 => ?_)
            refine g_istore_n C dX3_write_78 (by rw [hN]; decide) (lv' := [(3, .int x77), (0, .ref x), (1, .int x25), (2, .int n2)]) rfl ?_
            have loop79 : ∀ (nn : Nat) (m3 : Int32) (sk : Int32) (fk : Nat → Int32) (k : Nat) (hm : fl.length - k < nn) (hk : k ≤ fl.length) (hp : m3.toInt = (k : Int)) (hs : sk.toInt = ((((ldL lf (alls fl) (bas fl) 19) ++ drN fl fl.length ++ [30]) ++ fdN fl k).length : Int)) (hb : Bs fk 0 (((ldL lf (alls fl) (bas fl) 19) ++ drN fl fl.length ++ [30]) ++ fdN fl k)), G E g ([(x, .inr (5, [z0, .ref op, .ref lb, .ref fa, z4, z5, .int pr, .int fc])), (op, .inr (4, [.ref q64, .int sk])), (q64, aB E ((ocap cap (alls fl))) (fk)), (lb, aB E (24) (lf)), (fa, aF E (60) (ga))] ++ zz E fo fd R60) 1 (0 + 2 * (wrC pr fl cap - cap)) 79 [(0, .ref x), (1, .int x25), (2, .int n2), (3, .int m3)] [] := by
              intro nn
              induction nn with
              | zero => intro m3 sk fk k hm hk hp hs hb; omega
              | succ nn ih79 =>
                intro m3 sk fk k hm hk hp hs hb
                have hsk := stt_mono fl hk
                refine g_iload_n C dX3_write_79 3 rfl ?_
                refine g_aload_n C dX3_write_80 0 rfl ?_
                refine gf_X3_46 C 0 rfl rfl dX3_write_81 ?_
                refine g_icmp_ge C 103 dX3_write_84 (by decide) (fun c84 => ?_) (fun c84 => ?_)
                · obtain rfl : k = fl.length := by omega
                  refine g_aload_n C dX3_write_103 0 rfl ?_
                  refine gf_X3_19 C 0 rfl rfl dX3_write_104 ?_
                  refine g_bipush C dX3_write_107 (by decide) (fun x107 e107 => ?_)
                  refine g_callV C r mv_X3_155 dX3_write_109 (c_X2_emit g.l E op q64 (ocap cap (alls fl)) fk sk (((ldL lf (alls fl) (bas fl) 19) ++ drN fl fl.length ++ [30]) ++ fdN fl fl.length) x107 hs hb (by omega) (by simp only [List.length_append, List.length_cons, List.length_nil, drN_len, fdN_len, ldL_19]; omega)) (wr := ([(x, .inr (5, [z0, .ref op, .ref lb, .ref fa, z4, z5, .int pr, .int fc])), (lb, aB E (24) (lf)), (fa, aF E (60) (ga))] ++ zz E fo fd R60)) (As := [.int x107]) (rest := []) (Spl.atZ [0, 3, 4] [1, 2] rfl rfl rfl) 0 rfl rfl rfl rfl (Nat.le_of_ble_eq_true rfl) (by decide) (by omega) (by omega) (fun v w h => ?_)
                  obtain ⟨rfl, f109, s109, es109, eb109, rfl⟩ := h
                  refine g_tail ?_
                  change G E g ([(x, .inr (5, [z0, .ref op, .ref lb, .ref fa, z4, z5, .int pr, .int fc])), (lb, aB E (24) (lf)), (fa, aF E (60) (ga)), (op, .inr (4, [.ref q64, .int s109])), (q64, aB E ((ocap cap (alls fl))) (f109))] ++ zz E fo fd R60) _ _ _ _ []
                  refine g_permZ [0, 3, 4, 1, 2] rfl (ws' := [(x, .inr (5, [z0, .ref op, .ref lb, .ref fa, z4, z5, .int pr, .int fc])), (op, .inr (4, [.ref q64, .int s109])), (q64, aB E ((ocap cap (alls fl))) (f109)), (lb, aB E (24) (lf)), (fa, aF E (60) (ga))]) rfl rfl ?_
                  rw [u8_of (n := 29) e107 (by omega)] at eb109
                  refine g_iload_n C dX3_write_112 2 rfl ?_
                  exact g_iret C F dX3_write_113 rfl rfl (by omega) (by omega) (by rw [hwc]; exact ⟨_, _, _, _, rfl, Or.inl ⟨hok, by rw [frm_len]; exact hx64, es109.trans (len_1 _ _), eb109⟩, rfl⟩)
                · refine g_aload_n C dX3_write_87 0 rfl ?_
                  refine g_aload_n C dX3_write_88 0 rfl ?_
                  refine gf_X3_29 C 0 rfl rfl dX3_write_89 ?_
                  refine g_iload_n C dX3_write_92 3 rfl ?_
                  refine g_aaload C 4 rfl dX3_write_93 (k) (by omega) (by omega) (r := (fo (k))) (hga _ (by omega)) ?_
                  rcases hfd : fd (k) with ⟨tg, f1, f2, sz, su, bq, cp, ff⟩
                  obtain ⟨qT, qL, qB, qS, qC, qI⟩ := XF_at hXF (i := k) (by omega) hfd
                  obtain ⟨hW1, hW2, hW3, hW4, hW5⟩ := hF.2 (k) (by omega)
                  obtain ⟨gB, gC, gD⟩ := FG_at hFG (i := k) (by omega) hfd
                  refine g_focus (X := [(x, .inr (5, [z0, .ref op, .ref lb, .ref fa, z4, z5, .int pr, .int fc])), (op, .inr (4, [.ref q64, .int sk])), (q64, aB E ((ocap cap (alls fl))) (fk)), (lb, aB E (24) (lf)), (fa, aF E (60) (ga))]) (k) (by omega) hfd ?_
                  change G E g ([(x, .inr (5, [z0, .ref op, .ref lb, .ref fa, z4, z5, .int pr, .int fc])), (op, .inr (4, [.ref q64, .int sk])), (q64, aB E ((ocap cap (alls fl))) (fk)), (lb, aB E (24) (lf)), (fa, aF E (60) (ga)), ((fo (k)), .inr (2, [.int tg, .int f1, .int f2, .ref bq, .int sz, .int su])), (bq, aB E (cp) (ff))] ++ zz E fo fd (R60.erase (k))) _ _ _ _ _
                  have hsk1 := stt_mono fl (m := k + 1) (n := fl.length) (by omega)
                  simp only [stt] at hsk1
                  refine g_callV C r mv_X3_151 dX3_write_94 (c_X3_emitField g.l E x op q64 (ocap cap (alls fl)) fk sk (((ldL lf (alls fl) (bas fl) 19) ++ drN fl fl.length ++ [30]) ++ fdN fl k) (fo (k)) bq cp ff tg f1 f2 sz su (fT fl k) (fB fl k) (z0) (.ref lb) (.ref fa) (z4) (z5) (.int pr) (.int fc) hs hb (by omega) qT qL qB qC qI hW2 (fun q => (hW4 q).1) gD (by simp only [List.length_append, List.length_cons, List.length_nil, drN_len, fdN_len, ldL_19]; omega)) (wr := ([(lb, aB E (24) (lf)), (fa, aF E (60) (ga))] ++ zz E fo fd (R60.erase (k)))) (As := [.ref (fo (k))]) (rest := []) (Spl.atZ [3, 4] [0, 1, 2, 5, 6] rfl rfl rfl) 0 rfl rfl rfl rfl (Nat.le_of_ble_eq_true rfl) (by decide) (by omega) (by omega) (fun v w h => ?_)
                  obtain ⟨rfl, f94, s94, es94, eb94, rfl⟩ := h
                  refine g_tail ?_
                  change G E g ([(lb, aB E (24) (lf)), (fa, aF E (60) (ga)), (x, .inr (5, [z0, .ref op, .ref lb, .ref fa, z4, z5, .int pr, .int fc])), (op, .inr (4, [.ref q64, .int s94])), (q64, aB E ((ocap cap (alls fl))) (f94)), ((fo (k)), .inr (2, [.int tg, .int f1, .int f2, .ref bq, .int sz, .int su])), (bq, aB E (cp) (ff))] ++ zz E fo fd (R60.erase (k))) _ _ _ _ []
                  refine g_unfocus0 (X := [(lb, aB E (24) (lf)), (fa, aF E (60) (ga)), (x, .inr (5, [z0, .ref op, .ref lb, .ref fa, z4, z5, .int pr, .int fc])), (op, .inr (4, [.ref q64, .int s94])), (q64, aB E ((ocap cap (alls fl))) (f94))]) (k) (by omega) hfd ?_
                  change G E g ([(lb, aB E (24) (lf)), (fa, aF E (60) (ga)), (x, .inr (5, [z0, .ref op, .ref lb, .ref fa, z4, z5, .int pr, .int fc])), (op, .inr (4, [.ref q64, .int s94])), (q64, aB E ((ocap cap (alls fl))) (f94))] ++ zz E fo fd R60) _ _ _ _ _
                  refine g_iinc C dX3_write_97 3 rfl (by rw [hN]; decide) (by decide) (by omega) (fun x97 e97 => ?_)
                  refine g_lvE (lv' := [(3, .int x97), (0, .ref x), (1, .int x25), (2, .int n2)]) rfl ?_
                  refine g_goto C 79 dX3_write_100 (by decide) ?_
                  refine g_lv [1, 2, 3, 0] (lv' := [(0, .ref x), (1, .int x25), (2, .int n2), (3, .int x97)]) rfl ?_
                  refine g_permZ [2, 3, 4, 0, 1] rfl (ws' := [(x, .inr (5, [z0, .ref op, .ref lb, .ref fa, z4, z5, .int pr, .int fc])), (op, .inr (4, [.ref q64, .int s94])), (q64, aB E ((ocap cap (alls fl))) (f94)), (lb, aB E (24) (lf)), (fa, aF E (60) (ga))]) rfl rfl ?_
                  exact ih79 (x97) (s94) (f94) (k + 1) (by omega) (by omega) (by omega) (by rw [fdN_s]; exact es94) (by rw [fdN_s]; exact eb94)
            refine g_lv [1, 2, 3, 0] (lv' := [(0, .ref x), (1, .int x25), (2, .int n2), (3, .int x77)]) rfl ?_
            refine g_permZ [1, 2, 3, 0, 4] rfl (ws' := [(x, .inr (5, [z0, .ref op, .ref lb, .ref fa, z4, z5, .int pr, .int fc])), (op, .inr (4, [.ref q64, .int s74])), (q64, aB E ((ocap cap (alls fl))) (f74)), (lb, aB E (24) (lf)), (fa, aF E (60) (ga))]) rfl rfl ?_
            exact loop79 _ (x77) (s74) (f74) (0) (Nat.lt_succ_self _) (by omega) (by omega) (by rw [show fdN fl 0 = [] from rfl, List.append_nil]; exact es74) (by rw [show fdN fl 0 = [] from rfl, List.append_nil]; exact eb74)
          · refine g_iload_n C dX3_write_41 2 rfl ?_
            refine g_aload_n C dX3_write_42 0 rfl ?_
            refine gf_X3_29 C 0 rfl rfl dX3_write_43 ?_
            refine g_iload_n C dX3_write_46 3 rfl ?_
            refine g_aaload C 4 rfl dX3_write_47 (k) (by omega) (by omega) (r := (fo (k))) (hga _ (by omega)) ?_
            rcases hfd : fd (k) with ⟨tg, f1, f2, sz, su, bq, cp, ff⟩
            obtain ⟨qT, qL, qB, qS, qC, qI⟩ := XF_at hXF (i := k) (by omega) hfd
            obtain ⟨hW1, hW2, hW3, hW4, hW5⟩ := hF.2 (k) (by omega)
            obtain ⟨gB, gC, gD⟩ := FG_at hFG (i := k) (by omega) hfd
            refine g_focus (X := [(x, .inr (5, [z0, .ref op, .ref lb, .ref fa, z4, z5, .int pr, .int fc])), (op, .inr (4, [.ref ob, .int os])), (ob, aB E (cap) (of)), (lb, aB E (24) (lf)), (fa, aF E (60) (ga))]) (k) (by omega) hfd ?_
            change G E g ([(x, .inr (5, [z0, .ref op, .ref lb, .ref fa, z4, z5, .int pr, .int fc])), (op, .inr (4, [.ref ob, .int os])), (ob, aB E (cap) (of)), (lb, aB E (24) (lf)), (fa, aF E (60) (ga)), ((fo (k)), .inr (2, [.int tg, .int f1, .int f2, .ref bq, .int sz, .int su])), (bq, aB E (cp) (ff))] ++ zz E fo fd (R60.erase (k))) _ _ _ _ _
            have hbl := bdy_len (t := fT fl k) (bd := fB fl k) (fun h => (hW4 h).1)
            have hsk1 := stt_mono fl (m := k + 1) (n := fl.length) (by omega)
            simp only [stt] at hsk1
            refine g_callV C r mv_X3_139 dX3_write_48 (c_X0_writtenSize g.l E (fo (k)) bq tg f1 f2 sz su (by omega)) (wr := ([(x, .inr (5, [z0, .ref op, .ref lb, .ref fa, z4, z5, .int pr, .int fc])), (op, .inr (4, [.ref ob, .int os])), (ob, aB E (cap) (of)), (lb, aB E (24) (lf)), (fa, aF E (60) (ga)), (bq, aB E (cp) (ff))] ++ zz E fo fd (R60.erase (k)))) (As := []) (rest := [.int n2]) (Spl.atZ [0, 1, 2, 3, 4, 6] [5] rfl rfl rfl) 0 rfl rfl rfl rfl (Nat.le_of_ble_eq_true rfl) (by decide) (by omega) (by omega) (fun v w h => ?_)
            obtain ⟨x48, rfl, e48, rfl⟩ := h
            refine g_tail ?_
            change G E g ([(x, .inr (5, [z0, .ref op, .ref lb, .ref fa, z4, z5, .int pr, .int fc])), (op, .inr (4, [.ref ob, .int os])), (ob, aB E (cap) (of)), (lb, aB E (24) (lf)), (fa, aF E (60) (ga)), (bq, aB E (cp) (ff)), ((fo (k)), .inr (2, [.int tg, .int f1, .int f2, .ref bq, .int sz, .int su]))] ++ zz E fo fd (R60.erase (k))) _ _ _ _ [.int x48, .int n2]
            refine g_permZ [0, 1, 2, 3, 4, 6, 5] rfl (ws' := [(x, .inr (5, [z0, .ref op, .ref lb, .ref fa, z4, z5, .int pr, .int fc])), (op, .inr (4, [.ref ob, .int os])), (ob, aB E (cap) (of)), (lb, aB E (24) (lf)), (fa, aF E (60) (ga)), ((fo (k)), .inr (2, [.int tg, .int f1, .int f2, .ref bq, .int sz, .int su])), (bq, aB E (cp) (ff))]) rfl rfl ?_
            refine g_unfocus0 (X := [(x, .inr (5, [z0, .ref op, .ref lb, .ref fa, z4, z5, .int pr, .int fc])), (op, .inr (4, [.ref ob, .int os])), (ob, aB E (cap) (of)), (lb, aB E (24) (lf)), (fa, aF E (60) (ga))]) (k) (by omega) hfd ?_
            change G E g ([(x, .inr (5, [z0, .ref op, .ref lb, .ref fa, z4, z5, .int pr, .int fc])), (op, .inr (4, [.ref ob, .int os])), (ob, aB E (cap) (of)), (lb, aB E (24) (lf)), (fa, aF E (60) (ga))] ++ zz E fo fd R60) _ _ _ _ _
            have hx48 : x48.toInt = (((fB fl k).length + 1 : Nat) : Int) := by omega
            refine g_iadd C dX3_write_51 (by omega) (fun x51 e51 => ?_)
            refine g_istore_n C dX3_write_52 (by rw [hN]; decide) (lv' := [(2, .int x51), (0, .ref x), (1, .int x25), (3, .int n3)]) rfl ?_
            refine g_iinc C dX3_write_53 3 rfl (by rw [hN]; decide) (by decide) (by omega) (fun x53 e53 => ?_)
            refine g_lvE (lv' := [(3, .int x53), (2, .int x51), (0, .ref x), (1, .int x25)]) rfl ?_
            refine g_goto C 33 dX3_write_56 (by decide) ?_
            refine g_lv [2, 3, 1, 0] (lv' := [(0, .ref x), (1, .int x25), (2, .int x51), (3, .int x53)]) rfl ?_
            exact ih33 (x51) (x53) (k + 1) (by omega) (by omega) (by omega) (by simp only [stt]; omega)
      refine g_lv [3, 2, 1, 0] (lv' := [(0, .ref x), (1, .int x25), (2, .int x29), (3, .int x31)]) rfl ?_
      refine g_permZ [3, 0, 1, 2, 4] rfl (ws' := [(x, .inr (5, [z0, .ref op, .ref lb, .ref fa, z4, z5, .int pr, .int fc])), (op, .inr (4, [.ref ob, .int os])), (ob, aB E (cap) (of)), (lb, aB E (24) (lf)), (fa, aF E (60) (ga))]) rfl rfl ?_
      exact loop33 _ (x29) (x31) (0) (Nat.lt_succ_self _) (by omega) (by omega) (by rw [show stt fl 0 = 0 from rfl]; omega)
    · refine g_iconst C dX3_write_14 (by decide) (fun x14 e14 => ?_)
      skip
      refine g_permZ [3, 0, 1, 2, 4] rfl (ws' := [(x, .inr (5, [z0, .ref op, .ref lb, .ref fa, z4, z5, .int pr, .int fc])), (op, .inr (4, [.ref ob, .int os])), (ob, aB E (cap) (of)), (lb, aB E (24) (lf)), (fa, aF E (60) (ga))]) rfl rfl ?_
      exact g_iret C F dX3_write_15 rfl rfl (by omega) (by omega) (by rw [show wrC pr fl cap = cap from if_neg (fun h => by rcases e8 with q | q; (rw [q.2] at h; exact absurd h.2 (by decide)); omega)]; exact ⟨_, _, _, _, rfl, Or.inr ⟨(fun h => by rcases e8 with q | q; (rw [q.2] at h; exact absurd h.2 (by decide)); omega), by omega, rfl, rfl, rfl⟩, rfl⟩)
