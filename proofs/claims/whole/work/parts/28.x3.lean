set_option maxHeartbeats 1000000 in
set_option maxRecDepth 10000 in
theorem c_X3_put (l : Launch) (E : GE) (x fa : Nat) (ga : Nat → Option Nat) (fo : Nat → Nat) (fd : Nat → FV) (fl : FL) (pr fc : Int32) (y z : Int32) (z0 z1 z2 z4 z5 : Value) (hX : XPr pr fc fd fl) (hF : FW fl) (hga : ∀ j, j < 60 → ga j = some (fo j)) : Ctr l E yX3_put cX3_put 3 (some .int) 1 (0) (0) [.ref x, .int y, .int z] ([(x, .inr (5, [z0, z1, z2, .ref fa, z4, z5, .int pr, .int fc])), (fa, aF E (60) (ga))] ++ zz E fo fd R60) (fun v w => ∃ (r fc2 : Int32) (fd2 : Nat → FV), v = some (.int r) ∧ (((pr.toInt ≠ 0 ∧ 0 ≤ y.toInt ∧ y.toInt ≤ 999 ∧ fl.length < 60) ∧ r.toInt = ((fl.length + 1 : Nat) : Int) ∧ XPr pr fc2 fd2 (putF fl y.toInt.toNat (u8 (sh8 z)) (u8 z))) ∨ (¬ (pr.toInt ≠ 0 ∧ 0 ≤ y.toInt ∧ y.toInt ≤ 999 ∧ fl.length < 60) ∧ r.toInt = 0 ∧ XPr pr fc2 fd2 fl)) ∧ w = ([(x, .inr (5, [z0, z1, z2, .ref fa, z4, z5, .int pr, .int fc2])), (fa, aF E (60) (ga))] ++ zz E fo fd2 R60)) := by
  refine Ctr.intro (by decide) (Nat.le_of_ble_eq_true rfl) (fun g hgl hN C r F hi => ?_)
  subst hgl
  have hfl := hF.1
  obtain ⟨hpr, hfc, hXF, hFG⟩ := hX
  change G E g ([(x, .inr (5, [z0, z1, z2, .ref fa, z4, z5, .int pr, .int fc])), (fa, aF E (60) (ga))] ++ zz E fo fd R60) 0 0 0 [(0, .ref x), (1, .int y), (2, .int z)] []
  refine g_aload_n C dX3_put_0 0 rfl ?_
  refine gf_X3_42 C 0 rfl rfl dX3_put_1 ?_
  refine g_if_eq C 27 dX3_put_4 (by decide) (fun c4 => ?_) (fun c4 => ?_)
  · refine g_iconst C dX3_put_27 (by decide) (fun x27 e27 => ?_)
    exact g_iret C F dX3_put_28 rfl rfl (Nat.le_refl _) (Nat.le_refl _) (by exact ⟨_, _, _, rfl, Or.inr ⟨by omega, by omega, hpr, hfc, hXF, hFG⟩, rfl⟩)
  · refine g_iload_n C dX3_put_7 1 rfl ?_
    refine g_if_lt C 27 dX3_put_8 (by decide) (fun c8 => ?_) (fun c8 => ?_)
    · refine g_iconst C dX3_put_27 (by decide) (fun x27 e27 => ?_)
      exact g_iret C F dX3_put_28 rfl rfl (Nat.le_refl _) (Nat.le_refl _) (by exact ⟨_, _, _, rfl, Or.inr ⟨by omega, by omega, hpr, hfc, hXF, hFG⟩, rfl⟩)
    · refine g_iload_n C dX3_put_11 1 rfl ?_
      refine g_sipush C dX3_put_12 (by decide) (fun x12 e12 => ?_)
      refine g_icmp_gt C 27 dX3_put_15 (by decide) (fun c15 => ?_) (fun c15 => ?_)
      · refine g_iconst C dX3_put_27 (by decide) (fun x27 e27 => ?_)
        exact g_iret C F dX3_put_28 rfl rfl (Nat.le_refl _) (Nat.le_refl _) (by exact ⟨_, _, _, rfl, Or.inr ⟨by omega, by omega, hpr, hfc, hXF, hFG⟩, rfl⟩)
      · refine g_aload_n C dX3_put_18 0 rfl ?_
        refine gf_X3_46 C 0 rfl rfl dX3_put_19 ?_
        refine g_bipush C dX3_put_22 (by decide) (fun x22 e22 => ?_)
        refine g_icmp_lt C 29 dX3_put_24 (by decide) (fun c24 => ?_) (fun c24 => ?_)
        · refine g_aload_n C dX3_put_29 0 rfl ?_
          refine gf_X3_29 C 0 rfl rfl dX3_put_30 ?_
          refine g_aload_n C dX3_put_33 0 rfl ?_
          refine gf_X3_46 C 0 rfl rfl dX3_put_34 ?_
          refine g_aaload C 1 rfl dX3_put_37 (fl.length) (by omega) (by omega) (r := (fo (fl.length))) (hga _ (by omega)) ?_
          rcases hfd : fd (fl.length) with ⟨tg, f1, f2, sz, su, bq, cp, ff⟩
          obtain ⟨gB, gC, gD⟩ := FG_at hFG (i := fl.length) (by omega) hfd
          refine g_focus (X := [(x, .inr (5, [z0, z1, z2, .ref fa, z4, z5, .int pr, .int fc])), (fa, aF E (60) (ga))]) (fl.length) (by omega) hfd ?_
          change G E g ([(x, .inr (5, [z0, z1, z2, .ref fa, z4, z5, .int pr, .int fc])), (fa, aF E (60) (ga)), ((fo (fl.length)), .inr (2, [.int tg, .int f1, .int f2, .ref bq, .int sz, .int su])), (bq, aB E (cp) (ff))] ++ zz E fo fd (R60.erase (fl.length))) _ _ _ _ _
          refine g_iload_n C dX3_put_38 1 rfl ?_
          refine g_iload_n C dX3_put_39 2 rfl ?_
          refine g_bipush C dX3_put_40 (by decide) (fun x40 e40 => ?_)
          refine g_ishr8 C dX3_put_42 e40 (fun x42 e42 => ?_)
          refine g_sipush C dX3_put_43 (by decide) (fun x43 e43 => ?_)
          refine g_iand255 C dX3_put_46 e43 (fun x46 e46 l46 => ?_)
          refine g_iload_n C dX3_put_47 2 rfl ?_
          refine g_sipush C dX3_put_48 (by decide) (fun x48 e48 => ?_)
          refine g_iand255 C dX3_put_51 e48 (fun x51 e51 l51 => ?_)
          refine g_callV C r mv_X3_120 dX3_put_52 (c_X0_begin g.l E (fo (fl.length)) bq tg f1 f2 sz su y x46 x51) (wr := ([(x, .inr (5, [z0, z1, z2, .ref fa, z4, z5, .int pr, .int fc])), (fa, aF E (60) (ga)), (bq, aB E (cp) (ff))] ++ zz E fo fd (R60.erase (fl.length)))) (As := [.int y, .int x46, .int x51]) (rest := []) (Spl.atZ [0, 1, 3] [2] rfl rfl rfl) 0 rfl rfl rfl rfl (Nat.le_of_ble_eq_true rfl) (by decide) (Nat.le_refl _) (Nat.le_refl _) (fun v w h => ?_)
          obtain ⟨rfl, bs52, bu52, ebs52, ebu52, rfl⟩ := h
          refine g_tail ?_
          change G E g ([(x, .inr (5, [z0, z1, z2, .ref fa, z4, z5, .int pr, .int fc])), (fa, aF E (60) (ga)), (bq, aB E (cp) (ff)), ((fo (fl.length)), .inr (2, [.int y, .int x46, .int x51, .ref bq, .int bs52, .int bu52]))] ++ zz E fo fd (R60.erase (fl.length))) _ _ _ _ []
          refine g_permZ [0, 1, 3, 2] rfl (ws' := [(x, .inr (5, [z0, z1, z2, .ref fa, z4, z5, .int pr, .int fc])), (fa, aF E (60) (ga)), ((fo (fl.length)), .inr (2, [.int y, .int x46, .int x51, .ref bq, .int bs52, .int bu52])), (bq, aB E (cp) (ff))]) rfl rfl ?_
          refine g_unfocus (X := [(x, .inr (5, [z0, z1, z2, .ref fa, z4, z5, .int pr, .int fc])), (fa, aF E (60) (ga))]) (fl.length) (by omega) ?_
          change G E g ([(x, .inr (5, [z0, z1, z2, .ref fa, z4, z5, .int pr, .int fc])), (fa, aF E (60) (ga))] ++ zz E fo (va_up fd (fl.length) (y, x46, x51, bs52, bu52, bq, cp, ff)) R60) _ _ _ _ _
          refine g_aload_n C dX3_put_55 0 rfl ?_
          refine g_dup C dX3_put_56 rfl ?_
          refine gf_X3_46 C 0 rfl rfl dX3_put_57 ?_
          refine g_iconst C dX3_put_60 (by decide) (fun x60 e60 => ?_)
          refine g_iadd C dX3_put_61 (by omega) (fun x61 e61 => ?_)
          refine gp_X3_46 C 0 rfl (Nat.le_of_ble_eq_true rfl) rfl rfl dX3_put_62 ?_
          change G E g ([(x, .inr (5, [z0, z1, z2, .ref fa, z4, z5, .int pr, .int x61])), (fa, aF E (60) (ga))] ++ zz E fo (va_up fd (fl.length) (y, x46, x51, bs52, bu52, bq, cp, ff)) R60) _ _ _ _ _
          refine g_aload_n C dX3_put_65 0 rfl ?_
          refine gf_X3_46 C 0 rfl rfl dX3_put_66 ?_
          exact g_iret C F dX3_put_69 rfl rfl (Nat.le_refl _) (Nat.le_refl _) (by exact ⟨_, _, _, rfl, Or.inl ⟨by omega, by omega, Or.inl (by omega), by simp [putF]; omega, XF_put hXF (by omega) (by rw [e46, e42]) e51 ebs52 ebu52, FG_up hFG gB gC gD⟩, rfl⟩)
        · refine g_iconst C dX3_put_27 (by decide) (fun x27 e27 => ?_)
          exact g_iret C F dX3_put_28 rfl rfl (Nat.le_refl _) (Nat.le_refl _) (by exact ⟨_, _, _, rfl, Or.inr ⟨by omega, by omega, hpr, hfc, hXF, hFG⟩, rfl⟩)
set_option maxHeartbeats 4000000 in
set_option maxRecDepth 10000 in
theorem c_X3_subfield2 (l : Launch) (E : GE) (x fa : Nat) (ga : Nat → Option Nat) (fo : Nat → Nat) (fd : Nat → FV) (fl : FL) (pr fc : Int32) (y z t : Int32) (z0 z1 z2 z4 z5 : Value) (hX : XPr pr fc fd fl) (hF : FW fl) (hga : ∀ j, j < 60 → ga j = some (fo j)) : Ctr l E yX3_subfield2 cX3_subfield2 8 none 4 (3) (11100) [.ref x, .int y, .int z, .int t] ([(x, .inr (5, [z0, z1, z2, .ref fa, z4, z5, .int pr, .int fc])), (fa, aF E (60) (ga))] ++ zz E fo fd R60) (fun v w => v = none ∧ ∃ fd2 : Nat → FV, XPr pr fc fd2 (sub2 fl y.toInt (u8 z) (u8 t)) ∧ w = ([(x, .inr (5, [z0, z1, z2, .ref fa, z4, z5, .int pr, .int fc])), (fa, aF E (60) (ga))] ++ zz E fo fd2 R60)) := by
  refine Ctr.intro (by decide) (Nat.le_of_ble_eq_true rfl) (fun g hgl hN C r F hi => ?_)
  subst hgl
  have hfl := hF.1
  obtain ⟨hpr, hfc, hXF, hFG⟩ := hX
  change G E g ([(x, .inr (5, [z0, z1, z2, .ref fa, z4, z5, .int pr, .int fc])), (fa, aF E (60) (ga))] ++ zz E fo fd R60) 0 0 0 [(0, .ref x), (1, .int y), (2, .int z), (3, .int t)] []
  refine g_aload_n C dX3_subfield2_0 0 rfl ?_
  refine g_iload_n C dX3_subfield2_1 1 rfl ?_
  by_cases hq : 1 ≤ y.toInt ∧ y.toInt ≤ fc.toInt
  · refine g_callV C r mv_X3_81 dX3_subfield2_2 (c_X3_numberedY g.l E x fa ga fo fc y (z0) (z1) (z2) (z4) (z5) (.int pr) hga (by omega) hq) (wr := ([] ++ zz E fo fd R60)) (As := [.int y]) (rest := []) (Spl.atZ [] [0, 1] rfl rfl rfl) 0 rfl rfl rfl rfl (Nat.le_of_ble_eq_true rfl) (by decide) (by omega) (by omega) (fun v w h => ?_)
    obtain ⟨rfl, rfl⟩ := h
    refine g_tail ?_
    change G E g ([(x, .inr (5, [z0, z1, z2, .ref fa, z4, z5, .int pr, .int fc])), (fa, aF E (60) (ga))] ++ zz E fo fd R60) _ _ _ _ [.ref (fo (y.toInt.toNat - 1))]
    refine g_astore C dX3_subfield2_5 (by rw [hN]; decide) (lv' := [(4, .ref (fo (y.toInt.toNat - 1))), (0, .ref x), (1, .int y), (2, .int z), (3, .int t)]) rfl ?_
    refine g_iload_n C dX3_subfield2_7 4 rfl ?_
    refine g_sipush C dX3_subfield2_8 (by decide) (fun x8 e8 => ?_)
    refine g_iand255 C dX3_subfield2_11 e8 (fun x11 e11 l11 => ?_)
    refine g_istore C dX3_subfield2_12 (by rw [hN]; decide) (lv' := [(5, .int x11), (4, .ref (fo (y.toInt.toNat - 1))), (0, .ref x), (1, .int y), (2, .int z), (3, .int t)]) rfl ?_
    refine g_aload C dX3_subfield2_14 1 rfl ?_
    refine g_ifnull C dX3_subfield2_16 ?_
    refine g_iload C dX3_subfield2_19 0 rfl ?_
    refine g_callS C r ms_X3_124 dX3_subfield2_21 (c_X3_isMark g.l E x11) (wr := ([(x, .inr (5, [z0, z1, z2, .ref fa, z4, z5, .int pr, .int fc])), (fa, aF E (60) (ga))] ++ zz E fo fd R60)) (As := [.int x11]) (rest := []) (Spl.atZ [0, 1] [] rfl rfl rfl) rfl (Nat.le_of_ble_eq_true rfl) (by decide) (by omega) (by omega) (fun v w h => ?_)
    obtain ⟨x21, rfl, e21, rfl⟩ := h
    refine g_tail ?_
    change G E g ([(x, .inr (5, [z0, z1, z2, .ref fa, z4, z5, .int pr, .int fc])), (fa, aF E (60) (ga))] ++ zz E fo fd R60) _ _ _ _ [.int x21]
    refine g_if_eq C 28 dX3_subfield2_24 (by decide) (fun c24 => ?_) (fun c24 => ?_)
    · replace e21 := bl0 e21 c24
      rcases hfd : fd (y.toInt.toNat - 1) with ⟨tg, f1, f2, sz, su, bq, cp, ff⟩
      obtain ⟨qT, qL, qB, qS, qC, qI⟩ := XF_at hXF (i := y.toInt.toNat - 1) (by omega) hfd
      obtain ⟨hW1, hW2, hW3, hW4, hW5⟩ := hF.2 (y.toInt.toNat - 1) (by omega)
      obtain ⟨gB, gC, gD⟩ := FG_at hFG (i := y.toInt.toNat - 1) (by omega) hfd
      refine g_focus (X := [(x, .inr (5, [z0, z1, z2, .ref fa, z4, z5, .int pr, .int fc])), (fa, aF E (60) (ga))]) (y.toInt.toNat - 1) (by omega) hfd ?_
      change G E g ([(x, .inr (5, [z0, z1, z2, .ref fa, z4, z5, .int pr, .int fc])), (fa, aF E (60) (ga)), ((fo (y.toInt.toNat - 1)), .inr (2, [.int tg, .int f1, .int f2, .ref bq, .int sz, .int su])), (bq, aB E (cp) (ff))] ++ zz E fo fd (R60.erase (y.toInt.toNat - 1))) _ _ _ _ _
      have hbl := bdy_le (fT fl (y.toInt.toNat - 1)) (fB fl (y.toInt.toNat - 1))
      refine g_iload_n C dX3_subfield2_28 4 rfl ?_
      refine g_sipush C dX3_subfield2_29 (by decide) (fun x29 e29 => ?_)
      refine g_iand255 C dX3_subfield2_32 e29 (fun x32 e32 l32 => ?_)
      refine g_istore C dX3_subfield2_33 (by rw [hN]; decide) (lv' := [(6, .int x32), (5, .int x11), (4, .ref (fo (y.toInt.toNat - 1))), (0, .ref x), (1, .int y), (2, .int z), (3, .int t)]) rfl ?_
      have J61 : ∀ (b7 : Int32) (hb7 : (b7.toInt = 0 ∧ (fT fl (y.toInt.toNat - 1) ≤ 9 ∨ lastC (fB fl (y.toInt.toNat - 1)) = (u8 z : Int))) ∨ (b7.toInt = 1 ∧ ¬ (fT fl (y.toInt.toNat - 1) ≤ 9 ∨ lastC (fB fl (y.toInt.toNat - 1)) = (u8 z : Int)))), G E g ([(x, .inr (5, [z0, z1, z2, .ref fa, z4, z5, .int pr, .int fc])), (fa, aF E (60) (ga)), ((fo (y.toInt.toNat - 1)), .inr (2, [.int tg, .int f1, .int f2, .ref bq, .int sz, .int su])), (bq, aB E (cp) (ff))] ++ zz E fo fd (R60.erase (y.toInt.toNat - 1))) 0 0 61 [(0, .ref x), (4, .ref (fo (y.toInt.toNat - 1))), (5, .int x11), (6, .int x32)] [.int b7] := by
        intro b7 hb7
        refine g_istore C dX3_subfield2_61 (by rw [hN]; decide) (lv' := [(7, .int b7), (0, .ref x), (4, .ref (fo (y.toInt.toNat - 1))), (5, .int x11), (6, .int x32)]) rfl ?_
        refine g_unfocus0 (X := [(x, .inr (5, [z0, z1, z2, .ref fa, z4, z5, .int pr, .int fc])), (fa, aF E (60) (ga))]) (y.toInt.toNat - 1) (by omega) hfd ?_
        change G E g ([(x, .inr (5, [z0, z1, z2, .ref fa, z4, z5, .int pr, .int fc])), (fa, aF E (60) (ga))] ++ zz E fo fd R60) _ _ _ _ _
        refine g_iload C dX3_subfield2_63 0 rfl ?_
        refine g_if_eq C 77 dX3_subfield2_65 (by decide) (fun c65 => ?_) (fun c65 => ?_)
        · refine g_aload_n C dX3_subfield2_77 1 rfl ?_
          refine g_callV C r mv_X3_130 dX3_subfield2_78 (c_X3_heldBytes g.l E x fa ga fo fd fl pr fc (z0) (z1) (z2) (z4) (z5) ⟨hpr, hfc, hXF, hFG⟩ hF hga) (wr := []) (As := []) (rest := []) (Spl.atP [] [0, 1] rfl rfl rfl) 0 rfl rfl rfl rfl (Nat.le_of_ble_eq_true rfl) (by decide) (by omega) (by omega) (fun v w h => ?_)
          obtain ⟨x78, rfl, e78, rfl⟩ := h
          change G E g ([(x, .inr (5, [z0, z1, z2, .ref fa, z4, z5, .int pr, .int fc])), (fa, aF E (60) (ga))] ++ zz E fo fd R60) _ _ _ _ [.int x78]
          have htl := tot_le hF fl.length (Nat.le_refl _)
          refine g_iload C dX3_subfield2_81 0 rfl ?_
          refine g_if_eq C 90 dX3_subfield2_83 (by decide) (fun c83 => ?_) (fun c83 => ?_)
          · refine g_iconst C dX3_subfield2_90 (by decide) (fun x90 e90 => ?_)
            refine g_iadd C dX3_subfield2_91 (by omega) (fun x91 e91 => ?_)
            refine g_sipush C dX3_subfield2_92 (by decide) (fun x92 e92 => ?_)
            refine g_icmp_le C 99 dX3_subfield2_95 (by decide) (fun c95 => ?_) (fun c95 => ?_)
            · rcases hfdb : fd (y.toInt.toNat - 1) with ⟨tgb, f1b, f2b, szb, sub, bqb, cpb, ffb⟩
              obtain ⟨qTb, qLb, qBb, qSb, qCb, qIb⟩ := XF_at hXF (i := y.toInt.toNat - 1) (by omega) hfdb
              obtain ⟨hW1, hW2, hW3, hW4, hW5⟩ := hF.2 (y.toInt.toNat - 1) (by omega)
              obtain ⟨gBb, gCb, gDb⟩ := FG_at hFG (i := y.toInt.toNat - 1) (by omega) hfdb
              refine g_focus (X := [(x, .inr (5, [z0, z1, z2, .ref fa, z4, z5, .int pr, .int fc])), (fa, aF E (60) (ga))]) (y.toInt.toNat - 1) (by omega) hfdb ?_
              change G E g ([(x, .inr (5, [z0, z1, z2, .ref fa, z4, z5, .int pr, .int fc])), (fa, aF E (60) (ga)), ((fo (y.toInt.toNat - 1)), .inr (2, [.int tgb, .int f1b, .int f2b, .ref bqb, .int szb, .int sub])), (bqb, aB E (cpb) (ffb))] ++ zz E fo fd (R60.erase (y.toInt.toNat - 1))) _ _ _ _ _
              have u11 : u8 x11 = u8 t := u8_of e11 l11
              have u32 : u8 x32 = u8 z := u8_of e32 l32
              refine g_iload C dX3_subfield2_99 0 rfl ?_
              refine g_if_eq C 118 dX3_subfield2_101 (by decide) (fun c101 => ?_) (fun c101 => ?_)
              · refine g_aload C dX3_subfield2_118 2 rfl ?_
                refine g_iload C dX3_subfield2_120 3 rfl ?_
                refine g_callV C r mv_X3_133 dX3_subfield2_122 (c_X0_append g.l E (fo (y.toInt.toNat - 1)) bqb (cpb) (ffb) tgb f1b f2b szb sub ((bdy (fT fl (y.toInt.toNat - 1)) (fB fl (y.toInt.toNat - 1)))) x11 1 3700 qLb qBb (bdy_8 hW2) qCb (by omega) gBb (by omega) qSb (by first | omega | (simp only [List.length_append, List.length_cons, List.length_nil]; omega))) (wr := ([(x, .inr (5, [z0, z1, z2, .ref fa, z4, z5, .int pr, .int fc])), (fa, aF E (60) (ga))] ++ zz E fo fd (R60.erase (y.toInt.toNat - 1)))) (As := [.int x11]) (rest := []) (Spl.atZ [0, 1] [2, 3] rfl rfl rfl) 0 rfl rfl rfl rfl (Nat.le_of_ble_eq_true rfl) (by decide) (by omega) (by omega) (fun v w h => ?_)
                obtain ⟨rfl, aq122, an122, af122, as122, au122, h1_122, h2_122, h3_122, h4_122, h5_122, rfl⟩ := h
                refine g_tail ?_
                change G E g ([(x, .inr (5, [z0, z1, z2, .ref fa, z4, z5, .int pr, .int fc])), (fa, aF E (60) (ga)), ((fo (y.toInt.toNat - 1)), .inr (2, [.int tgb, .int f1b, .int f2b, .ref aq122, .int as122, .int au122])), (aq122, aB E (an122) (af122))] ++ zz E fo fd (R60.erase (y.toInt.toNat - 1))) _ _ _ _ []
                refine g_unfocus (X := [(x, .inr (5, [z0, z1, z2, .ref fa, z4, z5, .int pr, .int fc])), (fa, aF E (60) (ga))]) (y.toInt.toNat - 1) (by omega) ?_
                change G E g ([(x, .inr (5, [z0, z1, z2, .ref fa, z4, z5, .int pr, .int fc])), (fa, aF E (60) (ga))] ++ zz E fo (va_up fd (y.toInt.toNat - 1) (tgb, f1b, f2b, as122, au122, aq122, an122, af122)) R60) _ _ _ _ _
                exact g_vret C F dX3_subfield2_125 (by omega) (by omega) (by refine ⟨rfl, _, ⟨xs_pr hpr hfc hq, ?_, ?_, FG_up hFG h3_122 (by omega) (by omega)⟩, rfl⟩; rw [sub2_1 (by omega) (by omega), addB_len]; exact hfc; rw [sub2_1 (by omega) (by omega), ← u11]; exact XF_add hXF (by omega) (fun q => (hW4 q).1) qTb (by omega) h2_122 (h5_122 (by omega)) (by omega) qIb)
              · refine g_aload C dX3_subfield2_104 2 rfl ?_
                refine g_bipush C dX3_subfield2_106 (by decide) (fun x106 e106 => ?_)
                refine g_callV C r mv_X3_133 dX3_subfield2_108 (c_X0_append g.l E (fo (y.toInt.toNat - 1)) bqb (cpb) (ffb) tgb f1b f2b szb sub ((bdy (fT fl (y.toInt.toNat - 1)) (fB fl (y.toInt.toNat - 1)))) x106 1 3700 qLb qBb (bdy_8 hW2) qCb (by omega) gBb (by omega) qSb (by first | omega | (simp only [List.length_append, List.length_cons, List.length_nil]; omega))) (wr := ([(x, .inr (5, [z0, z1, z2, .ref fa, z4, z5, .int pr, .int fc])), (fa, aF E (60) (ga))] ++ zz E fo fd (R60.erase (y.toInt.toNat - 1)))) (As := [.int x106]) (rest := []) (Spl.atZ [0, 1] [2, 3] rfl rfl rfl) 0 rfl rfl rfl rfl (Nat.le_of_ble_eq_true rfl) (by decide) (by omega) (by omega) (fun v w h => ?_)
                obtain ⟨rfl, aq108, an108, af108, as108, au108, h1_108, h2_108, h3_108, h4_108, h5_108, rfl⟩ := h
                refine g_tail ?_
                change G E g ([(x, .inr (5, [z0, z1, z2, .ref fa, z4, z5, .int pr, .int fc])), (fa, aF E (60) (ga)), ((fo (y.toInt.toNat - 1)), .inr (2, [.int tgb, .int f1b, .int f2b, .ref aq108, .int as108, .int au108])), (aq108, aB E (an108) (af108))] ++ zz E fo fd (R60.erase (y.toInt.toNat - 1))) _ _ _ _ []
                have ln108 : ((bdy (fT fl (y.toInt.toNat - 1)) (fB fl (y.toInt.toNat - 1))) ++ [u8 x106]).length = (bdy (fT fl (y.toInt.toNat - 1)) (fB fl (y.toInt.toNat - 1))).length + 1 := List.length_append
                have u106 : u8 x106 = 31 := u8_of (n := 31) e106 (by omega)
                refine g_aload C dX3_subfield2_111 2 rfl ?_
                refine g_iload C dX3_subfield2_113 4 rfl ?_
                refine g_callV C r mv_X3_133 dX3_subfield2_115 (c_X0_append g.l E (fo (y.toInt.toNat - 1)) aq108 (an108) (af108) tgb f1b f2b as108 au108 ((bdy (fT fl (y.toInt.toNat - 1)) (fB fl (y.toInt.toNat - 1))) ++ [u8 x106]) x32 1 3700 (by rw [h1_108]; simp only [List.length_append, List.length_cons, List.length_nil] <;> omega) h2_108 (B8_snoc (bdy_8 hW2) (u8_lt _)) (by simp only [List.length_append, List.length_cons, List.length_nil]; omega) (by omega) h3_108 (by omega) (h5_108 (by omega)) (by first | omega | (simp only [List.length_append, List.length_cons, List.length_nil]; omega))) (wr := ([(x, .inr (5, [z0, z1, z2, .ref fa, z4, z5, .int pr, .int fc])), (fa, aF E (60) (ga))] ++ zz E fo fd (R60.erase (y.toInt.toNat - 1)))) (As := [.int x32]) (rest := []) (Spl.atZ [0, 1] [2, 3] rfl rfl rfl) 0 rfl rfl rfl rfl (Nat.le_of_ble_eq_true rfl) (by decide) (by omega) (by omega) (fun v w h => ?_)
                obtain ⟨rfl, aq115, an115, af115, as115, au115, h1_115, h2_115, h3_115, h4_115, h5_115, rfl⟩ := h
                refine g_tail ?_
                change G E g ([(x, .inr (5, [z0, z1, z2, .ref fa, z4, z5, .int pr, .int fc])), (fa, aF E (60) (ga)), ((fo (y.toInt.toNat - 1)), .inr (2, [.int tgb, .int f1b, .int f2b, .ref aq115, .int as115, .int au115])), (aq115, aB E (an115) (af115))] ++ zz E fo fd (R60.erase (y.toInt.toNat - 1))) _ _ _ _ []
                have ln115 : ((bdy (fT fl (y.toInt.toNat - 1)) (fB fl (y.toInt.toNat - 1))) ++ [u8 x106] ++ [u8 x32]).length = ((bdy (fT fl (y.toInt.toNat - 1)) (fB fl (y.toInt.toNat - 1))) ++ [u8 x106]).length + 1 := List.length_append
                refine g_aload C dX3_subfield2_118 2 rfl ?_
                refine g_iload C dX3_subfield2_120 3 rfl ?_
                refine g_callV C r mv_X3_133 dX3_subfield2_122 (c_X0_append g.l E (fo (y.toInt.toNat - 1)) aq115 (an115) (af115) tgb f1b f2b as115 au115 ((bdy (fT fl (y.toInt.toNat - 1)) (fB fl (y.toInt.toNat - 1))) ++ [u8 x106] ++ [u8 x32]) x11 1 3700 (by rw [h1_115]; simp only [List.length_append, List.length_cons, List.length_nil] <;> omega) h2_115 (B8_snoc (B8_snoc (bdy_8 hW2) (u8_lt _)) (u8_lt _)) (by simp only [List.length_append, List.length_cons, List.length_nil]; omega) (by omega) h3_115 (by omega) (h5_115 (by omega)) (by first | omega | (simp only [List.length_append, List.length_cons, List.length_nil]; omega))) (wr := ([(x, .inr (5, [z0, z1, z2, .ref fa, z4, z5, .int pr, .int fc])), (fa, aF E (60) (ga))] ++ zz E fo fd (R60.erase (y.toInt.toNat - 1)))) (As := [.int x11]) (rest := []) (Spl.atZ [0, 1] [2, 3] rfl rfl rfl) 0 rfl rfl rfl rfl (Nat.le_of_ble_eq_true rfl) (by decide) (by omega) (by omega) (fun v w h => ?_)
                obtain ⟨rfl, aq122, an122, af122, as122, au122, h1_122, h2_122, h3_122, h4_122, h5_122, rfl⟩ := h
                refine g_tail ?_
                change G E g ([(x, .inr (5, [z0, z1, z2, .ref fa, z4, z5, .int pr, .int fc])), (fa, aF E (60) (ga)), ((fo (y.toInt.toNat - 1)), .inr (2, [.int tgb, .int f1b, .int f2b, .ref aq122, .int as122, .int au122])), (aq122, aB E (an122) (af122))] ++ zz E fo fd (R60.erase (y.toInt.toNat - 1))) _ _ _ _ []
                refine g_unfocus (X := [(x, .inr (5, [z0, z1, z2, .ref fa, z4, z5, .int pr, .int fc])), (fa, aF E (60) (ga))]) (y.toInt.toNat - 1) (by omega) ?_
                change G E g ([(x, .inr (5, [z0, z1, z2, .ref fa, z4, z5, .int pr, .int fc])), (fa, aF E (60) (ga))] ++ zz E fo (va_up fd (y.toInt.toNat - 1) (tgb, f1b, f2b, as122, au122, aq122, an122, af122)) R60) _ _ _ _ _
                exact g_vret C F dX3_subfield2_125 (by omega) (by omega) (by refine ⟨rfl, _, ⟨xs_pr hpr hfc hq, ?_, ?_, FG_up hFG h3_122 (by omega) (by omega)⟩, rfl⟩; rw [sub2_3 (by omega) (by omega) (by omega), addB_len, addB_len, addB_len]; exact hfc; rw [sub2_3 (by omega) (by omega) (by omega), ← u11, ← u32, ← u106]; exact xs_3 hXF (by omega) (fun q => (hW4 q).1) qTb (by omega) h2_122 (h5_122 (by omega)) (by omega) qIb)
            · exact g_vret C F dX3_subfield2_98 (by omega) (by omega) (by exact ⟨rfl, _, by by_cases h12 : 1200 ≤ tot fl fl.length; rw [sub2_0 (Or.inr (Or.inr h12))]; exact ⟨hpr, hfc, hXF, hFG⟩; rw [sub2_2 (by omega) (by omega) (by omega)]; exact ⟨hpr, hfc, hXF, hFG⟩, rfl⟩)
          · refine g_iconst C dX3_subfield2_86 (by decide) (fun x86 e86 => ?_)
            refine g_goto C 91 dX3_subfield2_87 (by decide) ?_
            refine g_iadd C dX3_subfield2_91 (by omega) (fun x91 e91 => ?_)
            refine g_sipush C dX3_subfield2_92 (by decide) (fun x92 e92 => ?_)
            refine g_icmp_le C 99 dX3_subfield2_95 (by decide) (fun c95 => ?_) (fun c95 => ?_)
            · rcases hfdb : fd (y.toInt.toNat - 1) with ⟨tgb, f1b, f2b, szb, sub, bqb, cpb, ffb⟩
              obtain ⟨qTb, qLb, qBb, qSb, qCb, qIb⟩ := XF_at hXF (i := y.toInt.toNat - 1) (by omega) hfdb
              obtain ⟨hW1, hW2, hW3, hW4, hW5⟩ := hF.2 (y.toInt.toNat - 1) (by omega)
              obtain ⟨gBb, gCb, gDb⟩ := FG_at hFG (i := y.toInt.toNat - 1) (by omega) hfdb
              refine g_focus (X := [(x, .inr (5, [z0, z1, z2, .ref fa, z4, z5, .int pr, .int fc])), (fa, aF E (60) (ga))]) (y.toInt.toNat - 1) (by omega) hfdb ?_
              change G E g ([(x, .inr (5, [z0, z1, z2, .ref fa, z4, z5, .int pr, .int fc])), (fa, aF E (60) (ga)), ((fo (y.toInt.toNat - 1)), .inr (2, [.int tgb, .int f1b, .int f2b, .ref bqb, .int szb, .int sub])), (bqb, aB E (cpb) (ffb))] ++ zz E fo fd (R60.erase (y.toInt.toNat - 1))) _ _ _ _ _
              have u11 : u8 x11 = u8 t := u8_of e11 l11
              have u32 : u8 x32 = u8 z := u8_of e32 l32
              refine g_iload C dX3_subfield2_99 0 rfl ?_
              refine g_if_eq C 118 dX3_subfield2_101 (by decide) (fun c101 => ?_) (fun c101 => ?_)
              · refine g_aload C dX3_subfield2_118 2 rfl ?_
                refine g_iload C dX3_subfield2_120 3 rfl ?_
                refine g_callV C r mv_X3_133 dX3_subfield2_122 (c_X0_append g.l E (fo (y.toInt.toNat - 1)) bqb (cpb) (ffb) tgb f1b f2b szb sub ((bdy (fT fl (y.toInt.toNat - 1)) (fB fl (y.toInt.toNat - 1)))) x11 1 3700 qLb qBb (bdy_8 hW2) qCb (by omega) gBb (by omega) qSb (by first | omega | (simp only [List.length_append, List.length_cons, List.length_nil]; omega))) (wr := ([(x, .inr (5, [z0, z1, z2, .ref fa, z4, z5, .int pr, .int fc])), (fa, aF E (60) (ga))] ++ zz E fo fd (R60.erase (y.toInt.toNat - 1)))) (As := [.int x11]) (rest := []) (Spl.atZ [0, 1] [2, 3] rfl rfl rfl) 0 rfl rfl rfl rfl (Nat.le_of_ble_eq_true rfl) (by decide) (by omega) (by omega) (fun v w h => ?_)
                obtain ⟨rfl, aq122, an122, af122, as122, au122, h1_122, h2_122, h3_122, h4_122, h5_122, rfl⟩ := h
                refine g_tail ?_
                change G E g ([(x, .inr (5, [z0, z1, z2, .ref fa, z4, z5, .int pr, .int fc])), (fa, aF E (60) (ga)), ((fo (y.toInt.toNat - 1)), .inr (2, [.int tgb, .int f1b, .int f2b, .ref aq122, .int as122, .int au122])), (aq122, aB E (an122) (af122))] ++ zz E fo fd (R60.erase (y.toInt.toNat - 1))) _ _ _ _ []
                refine g_unfocus (X := [(x, .inr (5, [z0, z1, z2, .ref fa, z4, z5, .int pr, .int fc])), (fa, aF E (60) (ga))]) (y.toInt.toNat - 1) (by omega) ?_
                change G E g ([(x, .inr (5, [z0, z1, z2, .ref fa, z4, z5, .int pr, .int fc])), (fa, aF E (60) (ga))] ++ zz E fo (va_up fd (y.toInt.toNat - 1) (tgb, f1b, f2b, as122, au122, aq122, an122, af122)) R60) _ _ _ _ _
                exact g_vret C F dX3_subfield2_125 (by omega) (by omega) (by refine ⟨rfl, _, ⟨xs_pr hpr hfc hq, ?_, ?_, FG_up hFG h3_122 (by omega) (by omega)⟩, rfl⟩; rw [sub2_1 (by omega) (by omega), addB_len]; exact hfc; rw [sub2_1 (by omega) (by omega), ← u11]; exact XF_add hXF (by omega) (fun q => (hW4 q).1) qTb (by omega) h2_122 (h5_122 (by omega)) (by omega) qIb)
              · refine g_aload C dX3_subfield2_104 2 rfl ?_
                refine g_bipush C dX3_subfield2_106 (by decide) (fun x106 e106 => ?_)
                refine g_callV C r mv_X3_133 dX3_subfield2_108 (c_X0_append g.l E (fo (y.toInt.toNat - 1)) bqb (cpb) (ffb) tgb f1b f2b szb sub ((bdy (fT fl (y.toInt.toNat - 1)) (fB fl (y.toInt.toNat - 1)))) x106 1 3700 qLb qBb (bdy_8 hW2) qCb (by omega) gBb (by omega) qSb (by first | omega | (simp only [List.length_append, List.length_cons, List.length_nil]; omega))) (wr := ([(x, .inr (5, [z0, z1, z2, .ref fa, z4, z5, .int pr, .int fc])), (fa, aF E (60) (ga))] ++ zz E fo fd (R60.erase (y.toInt.toNat - 1)))) (As := [.int x106]) (rest := []) (Spl.atZ [0, 1] [2, 3] rfl rfl rfl) 0 rfl rfl rfl rfl (Nat.le_of_ble_eq_true rfl) (by decide) (by omega) (by omega) (fun v w h => ?_)
                obtain ⟨rfl, aq108, an108, af108, as108, au108, h1_108, h2_108, h3_108, h4_108, h5_108, rfl⟩ := h
                refine g_tail ?_
                change G E g ([(x, .inr (5, [z0, z1, z2, .ref fa, z4, z5, .int pr, .int fc])), (fa, aF E (60) (ga)), ((fo (y.toInt.toNat - 1)), .inr (2, [.int tgb, .int f1b, .int f2b, .ref aq108, .int as108, .int au108])), (aq108, aB E (an108) (af108))] ++ zz E fo fd (R60.erase (y.toInt.toNat - 1))) _ _ _ _ []
                have ln108 : ((bdy (fT fl (y.toInt.toNat - 1)) (fB fl (y.toInt.toNat - 1))) ++ [u8 x106]).length = (bdy (fT fl (y.toInt.toNat - 1)) (fB fl (y.toInt.toNat - 1))).length + 1 := List.length_append
                have u106 : u8 x106 = 31 := u8_of (n := 31) e106 (by omega)
                refine g_aload C dX3_subfield2_111 2 rfl ?_
                refine g_iload C dX3_subfield2_113 4 rfl ?_
                refine g_callV C r mv_X3_133 dX3_subfield2_115 (c_X0_append g.l E (fo (y.toInt.toNat - 1)) aq108 (an108) (af108) tgb f1b f2b as108 au108 ((bdy (fT fl (y.toInt.toNat - 1)) (fB fl (y.toInt.toNat - 1))) ++ [u8 x106]) x32 1 3700 (by rw [h1_108]; simp only [List.length_append, List.length_cons, List.length_nil] <;> omega) h2_108 (B8_snoc (bdy_8 hW2) (u8_lt _)) (by simp only [List.length_append, List.length_cons, List.length_nil]; omega) (by omega) h3_108 (by omega) (h5_108 (by omega)) (by first | omega | (simp only [List.length_append, List.length_cons, List.length_nil]; omega))) (wr := ([(x, .inr (5, [z0, z1, z2, .ref fa, z4, z5, .int pr, .int fc])), (fa, aF E (60) (ga))] ++ zz E fo fd (R60.erase (y.toInt.toNat - 1)))) (As := [.int x32]) (rest := []) (Spl.atZ [0, 1] [2, 3] rfl rfl rfl) 0 rfl rfl rfl rfl (Nat.le_of_ble_eq_true rfl) (by decide) (by omega) (by omega) (fun v w h => ?_)
                obtain ⟨rfl, aq115, an115, af115, as115, au115, h1_115, h2_115, h3_115, h4_115, h5_115, rfl⟩ := h
                refine g_tail ?_
                change G E g ([(x, .inr (5, [z0, z1, z2, .ref fa, z4, z5, .int pr, .int fc])), (fa, aF E (60) (ga)), ((fo (y.toInt.toNat - 1)), .inr (2, [.int tgb, .int f1b, .int f2b, .ref aq115, .int as115, .int au115])), (aq115, aB E (an115) (af115))] ++ zz E fo fd (R60.erase (y.toInt.toNat - 1))) _ _ _ _ []
                have ln115 : ((bdy (fT fl (y.toInt.toNat - 1)) (fB fl (y.toInt.toNat - 1))) ++ [u8 x106] ++ [u8 x32]).length = ((bdy (fT fl (y.toInt.toNat - 1)) (fB fl (y.toInt.toNat - 1))) ++ [u8 x106]).length + 1 := List.length_append
                refine g_aload C dX3_subfield2_118 2 rfl ?_
                refine g_iload C dX3_subfield2_120 3 rfl ?_
                refine g_callV C r mv_X3_133 dX3_subfield2_122 (c_X0_append g.l E (fo (y.toInt.toNat - 1)) aq115 (an115) (af115) tgb f1b f2b as115 au115 ((bdy (fT fl (y.toInt.toNat - 1)) (fB fl (y.toInt.toNat - 1))) ++ [u8 x106] ++ [u8 x32]) x11 1 3700 (by rw [h1_115]; simp only [List.length_append, List.length_cons, List.length_nil] <;> omega) h2_115 (B8_snoc (B8_snoc (bdy_8 hW2) (u8_lt _)) (u8_lt _)) (by simp only [List.length_append, List.length_cons, List.length_nil]; omega) (by omega) h3_115 (by omega) (h5_115 (by omega)) (by first | omega | (simp only [List.length_append, List.length_cons, List.length_nil]; omega))) (wr := ([(x, .inr (5, [z0, z1, z2, .ref fa, z4, z5, .int pr, .int fc])), (fa, aF E (60) (ga))] ++ zz E fo fd (R60.erase (y.toInt.toNat - 1)))) (As := [.int x11]) (rest := []) (Spl.atZ [0, 1] [2, 3] rfl rfl rfl) 0 rfl rfl rfl rfl (Nat.le_of_ble_eq_true rfl) (by decide) (by omega) (by omega) (fun v w h => ?_)
                obtain ⟨rfl, aq122, an122, af122, as122, au122, h1_122, h2_122, h3_122, h4_122, h5_122, rfl⟩ := h
                refine g_tail ?_
                change G E g ([(x, .inr (5, [z0, z1, z2, .ref fa, z4, z5, .int pr, .int fc])), (fa, aF E (60) (ga)), ((fo (y.toInt.toNat - 1)), .inr (2, [.int tgb, .int f1b, .int f2b, .ref aq122, .int as122, .int au122])), (aq122, aB E (an122) (af122))] ++ zz E fo fd (R60.erase (y.toInt.toNat - 1))) _ _ _ _ []
                refine g_unfocus (X := [(x, .inr (5, [z0, z1, z2, .ref fa, z4, z5, .int pr, .int fc])), (fa, aF E (60) (ga))]) (y.toInt.toNat - 1) (by omega) ?_
                change G E g ([(x, .inr (5, [z0, z1, z2, .ref fa, z4, z5, .int pr, .int fc])), (fa, aF E (60) (ga))] ++ zz E fo (va_up fd (y.toInt.toNat - 1) (tgb, f1b, f2b, as122, au122, aq122, an122, af122)) R60) _ _ _ _ _
                exact g_vret C F dX3_subfield2_125 (by omega) (by omega) (by refine ⟨rfl, _, ⟨xs_pr hpr hfc hq, ?_, ?_, FG_up hFG h3_122 (by omega) (by omega)⟩, rfl⟩; rw [sub2_3 (by omega) (by omega) (by omega), addB_len, addB_len, addB_len]; exact hfc; rw [sub2_3 (by omega) (by omega) (by omega), ← u11, ← u32, ← u106]; exact xs_3 hXF (by omega) (fun q => (hW4 q).1) qTb (by omega) h2_122 (h5_122 (by omega)) (by omega) qIb)
            · exact g_vret C F dX3_subfield2_98 (by omega) (by omega) (by exact ⟨rfl, _, by by_cases h12 : 1200 ≤ tot fl fl.length; rw [sub2_0 (Or.inr (Or.inr h12))]; exact ⟨hpr, hfc, hXF, hFG⟩; rw [sub2_2 (by omega) (by omega) (by omega)]; exact ⟨hpr, hfc, hXF, hFG⟩, rfl⟩)
        · refine g_iload C dX3_subfield2_68 4 rfl ?_
          refine g_callS C r ms_X3_124 dX3_subfield2_70 (c_X3_isMark g.l E x32) (wr := ([(x, .inr (5, [z0, z1, z2, .ref fa, z4, z5, .int pr, .int fc])), (fa, aF E (60) (ga))] ++ zz E fo fd R60)) (As := [.int x32]) (rest := []) (Spl.atZ [0, 1] [] rfl rfl rfl) rfl (Nat.le_of_ble_eq_true rfl) (by decide) (by omega) (by omega) (fun v w h => ?_)
          obtain ⟨x70, rfl, e70, rfl⟩ := h
          refine g_tail ?_
          change G E g ([(x, .inr (5, [z0, z1, z2, .ref fa, z4, z5, .int pr, .int fc])), (fa, aF E (60) (ga))] ++ zz E fo fd R60) _ _ _ _ [.int x70]
          refine g_if_eq C 77 dX3_subfield2_73 (by decide) (fun c73 => ?_) (fun c73 => ?_)
          · replace e70 := bl0 e70 c73
            refine g_aload_n C dX3_subfield2_77 1 rfl ?_
            refine g_callV C r mv_X3_130 dX3_subfield2_78 (c_X3_heldBytes g.l E x fa ga fo fd fl pr fc (z0) (z1) (z2) (z4) (z5) ⟨hpr, hfc, hXF, hFG⟩ hF hga) (wr := []) (As := []) (rest := []) (Spl.atP [] [0, 1] rfl rfl rfl) 0 rfl rfl rfl rfl (Nat.le_of_ble_eq_true rfl) (by decide) (by omega) (by omega) (fun v w h => ?_)
            obtain ⟨x78, rfl, e78, rfl⟩ := h
            change G E g ([(x, .inr (5, [z0, z1, z2, .ref fa, z4, z5, .int pr, .int fc])), (fa, aF E (60) (ga))] ++ zz E fo fd R60) _ _ _ _ [.int x78]
            have htl := tot_le hF fl.length (Nat.le_refl _)
            refine g_iload C dX3_subfield2_81 0 rfl ?_
            refine g_if_eq C 90 dX3_subfield2_83 (by decide) (fun c83 => ?_) (fun c83 => ?_)
            · refine g_iconst C dX3_subfield2_90 (by decide) (fun x90 e90 => ?_)
              refine g_iadd C dX3_subfield2_91 (by omega) (fun x91 e91 => ?_)
              refine g_sipush C dX3_subfield2_92 (by decide) (fun x92 e92 => ?_)
              refine g_icmp_le C 99 dX3_subfield2_95 (by decide) (fun c95 => ?_) (fun c95 => ?_)
              · rcases hfdb : fd (y.toInt.toNat - 1) with ⟨tgb, f1b, f2b, szb, sub, bqb, cpb, ffb⟩
                obtain ⟨qTb, qLb, qBb, qSb, qCb, qIb⟩ := XF_at hXF (i := y.toInt.toNat - 1) (by omega) hfdb
                obtain ⟨hW1, hW2, hW3, hW4, hW5⟩ := hF.2 (y.toInt.toNat - 1) (by omega)
                obtain ⟨gBb, gCb, gDb⟩ := FG_at hFG (i := y.toInt.toNat - 1) (by omega) hfdb
                refine g_focus (X := [(x, .inr (5, [z0, z1, z2, .ref fa, z4, z5, .int pr, .int fc])), (fa, aF E (60) (ga))]) (y.toInt.toNat - 1) (by omega) hfdb ?_
                change G E g ([(x, .inr (5, [z0, z1, z2, .ref fa, z4, z5, .int pr, .int fc])), (fa, aF E (60) (ga)), ((fo (y.toInt.toNat - 1)), .inr (2, [.int tgb, .int f1b, .int f2b, .ref bqb, .int szb, .int sub])), (bqb, aB E (cpb) (ffb))] ++ zz E fo fd (R60.erase (y.toInt.toNat - 1))) _ _ _ _ _
                have u11 : u8 x11 = u8 t := u8_of e11 l11
                have u32 : u8 x32 = u8 z := u8_of e32 l32
                refine g_iload C dX3_subfield2_99 0 rfl ?_
                refine g_if_eq C 118 dX3_subfield2_101 (by decide) (fun c101 => ?_) (fun c101 => ?_)
                · refine g_aload C dX3_subfield2_118 2 rfl ?_
                  refine g_iload C dX3_subfield2_120 3 rfl ?_
                  refine g_callV C r mv_X3_133 dX3_subfield2_122 (c_X0_append g.l E (fo (y.toInt.toNat - 1)) bqb (cpb) (ffb) tgb f1b f2b szb sub ((bdy (fT fl (y.toInt.toNat - 1)) (fB fl (y.toInt.toNat - 1)))) x11 1 3700 qLb qBb (bdy_8 hW2) qCb (by omega) gBb (by omega) qSb (by first | omega | (simp only [List.length_append, List.length_cons, List.length_nil]; omega))) (wr := ([(x, .inr (5, [z0, z1, z2, .ref fa, z4, z5, .int pr, .int fc])), (fa, aF E (60) (ga))] ++ zz E fo fd (R60.erase (y.toInt.toNat - 1)))) (As := [.int x11]) (rest := []) (Spl.atZ [0, 1] [2, 3] rfl rfl rfl) 0 rfl rfl rfl rfl (Nat.le_of_ble_eq_true rfl) (by decide) (by omega) (by omega) (fun v w h => ?_)
                  obtain ⟨rfl, aq122, an122, af122, as122, au122, h1_122, h2_122, h3_122, h4_122, h5_122, rfl⟩ := h
                  refine g_tail ?_
                  change G E g ([(x, .inr (5, [z0, z1, z2, .ref fa, z4, z5, .int pr, .int fc])), (fa, aF E (60) (ga)), ((fo (y.toInt.toNat - 1)), .inr (2, [.int tgb, .int f1b, .int f2b, .ref aq122, .int as122, .int au122])), (aq122, aB E (an122) (af122))] ++ zz E fo fd (R60.erase (y.toInt.toNat - 1))) _ _ _ _ []
                  refine g_unfocus (X := [(x, .inr (5, [z0, z1, z2, .ref fa, z4, z5, .int pr, .int fc])), (fa, aF E (60) (ga))]) (y.toInt.toNat - 1) (by omega) ?_
                  change G E g ([(x, .inr (5, [z0, z1, z2, .ref fa, z4, z5, .int pr, .int fc])), (fa, aF E (60) (ga))] ++ zz E fo (va_up fd (y.toInt.toNat - 1) (tgb, f1b, f2b, as122, au122, aq122, an122, af122)) R60) _ _ _ _ _
                  exact g_vret C F dX3_subfield2_125 (by omega) (by omega) (by refine ⟨rfl, _, ⟨xs_pr hpr hfc hq, ?_, ?_, FG_up hFG h3_122 (by omega) (by omega)⟩, rfl⟩; rw [sub2_1 (by omega) (by omega), addB_len]; exact hfc; rw [sub2_1 (by omega) (by omega), ← u11]; exact XF_add hXF (by omega) (fun q => (hW4 q).1) qTb (by omega) h2_122 (h5_122 (by omega)) (by omega) qIb)
                · refine g_aload C dX3_subfield2_104 2 rfl ?_
                  refine g_bipush C dX3_subfield2_106 (by decide) (fun x106 e106 => ?_)
                  refine g_callV C r mv_X3_133 dX3_subfield2_108 (c_X0_append g.l E (fo (y.toInt.toNat - 1)) bqb (cpb) (ffb) tgb f1b f2b szb sub ((bdy (fT fl (y.toInt.toNat - 1)) (fB fl (y.toInt.toNat - 1)))) x106 1 3700 qLb qBb (bdy_8 hW2) qCb (by omega) gBb (by omega) qSb (by first | omega | (simp only [List.length_append, List.length_cons, List.length_nil]; omega))) (wr := ([(x, .inr (5, [z0, z1, z2, .ref fa, z4, z5, .int pr, .int fc])), (fa, aF E (60) (ga))] ++ zz E fo fd (R60.erase (y.toInt.toNat - 1)))) (As := [.int x106]) (rest := []) (Spl.atZ [0, 1] [2, 3] rfl rfl rfl) 0 rfl rfl rfl rfl (Nat.le_of_ble_eq_true rfl) (by decide) (by omega) (by omega) (fun v w h => ?_)
                  obtain ⟨rfl, aq108, an108, af108, as108, au108, h1_108, h2_108, h3_108, h4_108, h5_108, rfl⟩ := h
                  refine g_tail ?_
                  change G E g ([(x, .inr (5, [z0, z1, z2, .ref fa, z4, z5, .int pr, .int fc])), (fa, aF E (60) (ga)), ((fo (y.toInt.toNat - 1)), .inr (2, [.int tgb, .int f1b, .int f2b, .ref aq108, .int as108, .int au108])), (aq108, aB E (an108) (af108))] ++ zz E fo fd (R60.erase (y.toInt.toNat - 1))) _ _ _ _ []
                  have ln108 : ((bdy (fT fl (y.toInt.toNat - 1)) (fB fl (y.toInt.toNat - 1))) ++ [u8 x106]).length = (bdy (fT fl (y.toInt.toNat - 1)) (fB fl (y.toInt.toNat - 1))).length + 1 := List.length_append
                  have u106 : u8 x106 = 31 := u8_of (n := 31) e106 (by omega)
                  refine g_aload C dX3_subfield2_111 2 rfl ?_
                  refine g_iload C dX3_subfield2_113 4 rfl ?_
                  refine g_callV C r mv_X3_133 dX3_subfield2_115 (c_X0_append g.l E (fo (y.toInt.toNat - 1)) aq108 (an108) (af108) tgb f1b f2b as108 au108 ((bdy (fT fl (y.toInt.toNat - 1)) (fB fl (y.toInt.toNat - 1))) ++ [u8 x106]) x32 1 3700 (by rw [h1_108]; simp only [List.length_append, List.length_cons, List.length_nil] <;> omega) h2_108 (B8_snoc (bdy_8 hW2) (u8_lt _)) (by simp only [List.length_append, List.length_cons, List.length_nil]; omega) (by omega) h3_108 (by omega) (h5_108 (by omega)) (by first | omega | (simp only [List.length_append, List.length_cons, List.length_nil]; omega))) (wr := ([(x, .inr (5, [z0, z1, z2, .ref fa, z4, z5, .int pr, .int fc])), (fa, aF E (60) (ga))] ++ zz E fo fd (R60.erase (y.toInt.toNat - 1)))) (As := [.int x32]) (rest := []) (Spl.atZ [0, 1] [2, 3] rfl rfl rfl) 0 rfl rfl rfl rfl (Nat.le_of_ble_eq_true rfl) (by decide) (by omega) (by omega) (fun v w h => ?_)
                  obtain ⟨rfl, aq115, an115, af115, as115, au115, h1_115, h2_115, h3_115, h4_115, h5_115, rfl⟩ := h
                  refine g_tail ?_
                  change G E g ([(x, .inr (5, [z0, z1, z2, .ref fa, z4, z5, .int pr, .int fc])), (fa, aF E (60) (ga)), ((fo (y.toInt.toNat - 1)), .inr (2, [.int tgb, .int f1b, .int f2b, .ref aq115, .int as115, .int au115])), (aq115, aB E (an115) (af115))] ++ zz E fo fd (R60.erase (y.toInt.toNat - 1))) _ _ _ _ []
                  have ln115 : ((bdy (fT fl (y.toInt.toNat - 1)) (fB fl (y.toInt.toNat - 1))) ++ [u8 x106] ++ [u8 x32]).length = ((bdy (fT fl (y.toInt.toNat - 1)) (fB fl (y.toInt.toNat - 1))) ++ [u8 x106]).length + 1 := List.length_append
                  refine g_aload C dX3_subfield2_118 2 rfl ?_
                  refine g_iload C dX3_subfield2_120 3 rfl ?_
                  refine g_callV C r mv_X3_133 dX3_subfield2_122 (c_X0_append g.l E (fo (y.toInt.toNat - 1)) aq115 (an115) (af115) tgb f1b f2b as115 au115 ((bdy (fT fl (y.toInt.toNat - 1)) (fB fl (y.toInt.toNat - 1))) ++ [u8 x106] ++ [u8 x32]) x11 1 3700 (by rw [h1_115]; simp only [List.length_append, List.length_cons, List.length_nil] <;> omega) h2_115 (B8_snoc (B8_snoc (bdy_8 hW2) (u8_lt _)) (u8_lt _)) (by simp only [List.length_append, List.length_cons, List.length_nil]; omega) (by omega) h3_115 (by omega) (h5_115 (by omega)) (by first | omega | (simp only [List.length_append, List.length_cons, List.length_nil]; omega))) (wr := ([(x, .inr (5, [z0, z1, z2, .ref fa, z4, z5, .int pr, .int fc])), (fa, aF E (60) (ga))] ++ zz E fo fd (R60.erase (y.toInt.toNat - 1)))) (As := [.int x11]) (rest := []) (Spl.atZ [0, 1] [2, 3] rfl rfl rfl) 0 rfl rfl rfl rfl (Nat.le_of_ble_eq_true rfl) (by decide) (by omega) (by omega) (fun v w h => ?_)
                  obtain ⟨rfl, aq122, an122, af122, as122, au122, h1_122, h2_122, h3_122, h4_122, h5_122, rfl⟩ := h
                  refine g_tail ?_
                  change G E g ([(x, .inr (5, [z0, z1, z2, .ref fa, z4, z5, .int pr, .int fc])), (fa, aF E (60) (ga)), ((fo (y.toInt.toNat - 1)), .inr (2, [.int tgb, .int f1b, .int f2b, .ref aq122, .int as122, .int au122])), (aq122, aB E (an122) (af122))] ++ zz E fo fd (R60.erase (y.toInt.toNat - 1))) _ _ _ _ []
                  refine g_unfocus (X := [(x, .inr (5, [z0, z1, z2, .ref fa, z4, z5, .int pr, .int fc])), (fa, aF E (60) (ga))]) (y.toInt.toNat - 1) (by omega) ?_
                  change G E g ([(x, .inr (5, [z0, z1, z2, .ref fa, z4, z5, .int pr, .int fc])), (fa, aF E (60) (ga))] ++ zz E fo (va_up fd (y.toInt.toNat - 1) (tgb, f1b, f2b, as122, au122, aq122, an122, af122)) R60) _ _ _ _ _
                  exact g_vret C F dX3_subfield2_125 (by omega) (by omega) (by refine ⟨rfl, _, ⟨xs_pr hpr hfc hq, ?_, ?_, FG_up hFG h3_122 (by omega) (by omega)⟩, rfl⟩; rw [sub2_3 (by omega) (by omega) (by omega), addB_len, addB_len, addB_len]; exact hfc; rw [sub2_3 (by omega) (by omega) (by omega), ← u11, ← u32, ← u106]; exact xs_3 hXF (by omega) (fun q => (hW4 q).1) qTb (by omega) h2_122 (h5_122 (by omega)) (by omega) qIb)
              · exact g_vret C F dX3_subfield2_98 (by omega) (by omega) (by exact ⟨rfl, _, by by_cases h12 : 1200 ≤ tot fl fl.length; rw [sub2_0 (Or.inr (Or.inr h12))]; exact ⟨hpr, hfc, hXF, hFG⟩; rw [sub2_2 (by omega) (by omega) (by omega)]; exact ⟨hpr, hfc, hXF, hFG⟩, rfl⟩)
            · refine g_iconst C dX3_subfield2_86 (by decide) (fun x86 e86 => ?_)
              refine g_goto C 91 dX3_subfield2_87 (by decide) ?_
              refine g_iadd C dX3_subfield2_91 (by omega) (fun x91 e91 => ?_)
              refine g_sipush C dX3_subfield2_92 (by decide) (fun x92 e92 => ?_)
              refine g_icmp_le C 99 dX3_subfield2_95 (by decide) (fun c95 => ?_) (fun c95 => ?_)
              · rcases hfdb : fd (y.toInt.toNat - 1) with ⟨tgb, f1b, f2b, szb, sub, bqb, cpb, ffb⟩
                obtain ⟨qTb, qLb, qBb, qSb, qCb, qIb⟩ := XF_at hXF (i := y.toInt.toNat - 1) (by omega) hfdb
                obtain ⟨hW1, hW2, hW3, hW4, hW5⟩ := hF.2 (y.toInt.toNat - 1) (by omega)
                obtain ⟨gBb, gCb, gDb⟩ := FG_at hFG (i := y.toInt.toNat - 1) (by omega) hfdb
                refine g_focus (X := [(x, .inr (5, [z0, z1, z2, .ref fa, z4, z5, .int pr, .int fc])), (fa, aF E (60) (ga))]) (y.toInt.toNat - 1) (by omega) hfdb ?_
                change G E g ([(x, .inr (5, [z0, z1, z2, .ref fa, z4, z5, .int pr, .int fc])), (fa, aF E (60) (ga)), ((fo (y.toInt.toNat - 1)), .inr (2, [.int tgb, .int f1b, .int f2b, .ref bqb, .int szb, .int sub])), (bqb, aB E (cpb) (ffb))] ++ zz E fo fd (R60.erase (y.toInt.toNat - 1))) _ _ _ _ _
                have u11 : u8 x11 = u8 t := u8_of e11 l11
                have u32 : u8 x32 = u8 z := u8_of e32 l32
                refine g_iload C dX3_subfield2_99 0 rfl ?_
                refine g_if_eq C 118 dX3_subfield2_101 (by decide) (fun c101 => ?_) (fun c101 => ?_)
                · refine g_aload C dX3_subfield2_118 2 rfl ?_
                  refine g_iload C dX3_subfield2_120 3 rfl ?_
                  refine g_callV C r mv_X3_133 dX3_subfield2_122 (c_X0_append g.l E (fo (y.toInt.toNat - 1)) bqb (cpb) (ffb) tgb f1b f2b szb sub ((bdy (fT fl (y.toInt.toNat - 1)) (fB fl (y.toInt.toNat - 1)))) x11 1 3700 qLb qBb (bdy_8 hW2) qCb (by omega) gBb (by omega) qSb (by first | omega | (simp only [List.length_append, List.length_cons, List.length_nil]; omega))) (wr := ([(x, .inr (5, [z0, z1, z2, .ref fa, z4, z5, .int pr, .int fc])), (fa, aF E (60) (ga))] ++ zz E fo fd (R60.erase (y.toInt.toNat - 1)))) (As := [.int x11]) (rest := []) (Spl.atZ [0, 1] [2, 3] rfl rfl rfl) 0 rfl rfl rfl rfl (Nat.le_of_ble_eq_true rfl) (by decide) (by omega) (by omega) (fun v w h => ?_)
                  obtain ⟨rfl, aq122, an122, af122, as122, au122, h1_122, h2_122, h3_122, h4_122, h5_122, rfl⟩ := h
                  refine g_tail ?_
                  change G E g ([(x, .inr (5, [z0, z1, z2, .ref fa, z4, z5, .int pr, .int fc])), (fa, aF E (60) (ga)), ((fo (y.toInt.toNat - 1)), .inr (2, [.int tgb, .int f1b, .int f2b, .ref aq122, .int as122, .int au122])), (aq122, aB E (an122) (af122))] ++ zz E fo fd (R60.erase (y.toInt.toNat - 1))) _ _ _ _ []
                  refine g_unfocus (X := [(x, .inr (5, [z0, z1, z2, .ref fa, z4, z5, .int pr, .int fc])), (fa, aF E (60) (ga))]) (y.toInt.toNat - 1) (by omega) ?_
                  change G E g ([(x, .inr (5, [z0, z1, z2, .ref fa, z4, z5, .int pr, .int fc])), (fa, aF E (60) (ga))] ++ zz E fo (va_up fd (y.toInt.toNat - 1) (tgb, f1b, f2b, as122, au122, aq122, an122, af122)) R60) _ _ _ _ _
                  exact g_vret C F dX3_subfield2_125 (by omega) (by omega) (by refine ⟨rfl, _, ⟨xs_pr hpr hfc hq, ?_, ?_, FG_up hFG h3_122 (by omega) (by omega)⟩, rfl⟩; rw [sub2_1 (by omega) (by omega), addB_len]; exact hfc; rw [sub2_1 (by omega) (by omega), ← u11]; exact XF_add hXF (by omega) (fun q => (hW4 q).1) qTb (by omega) h2_122 (h5_122 (by omega)) (by omega) qIb)
                · refine g_aload C dX3_subfield2_104 2 rfl ?_
                  refine g_bipush C dX3_subfield2_106 (by decide) (fun x106 e106 => ?_)
                  refine g_callV C r mv_X3_133 dX3_subfield2_108 (c_X0_append g.l E (fo (y.toInt.toNat - 1)) bqb (cpb) (ffb) tgb f1b f2b szb sub ((bdy (fT fl (y.toInt.toNat - 1)) (fB fl (y.toInt.toNat - 1)))) x106 1 3700 qLb qBb (bdy_8 hW2) qCb (by omega) gBb (by omega) qSb (by first | omega | (simp only [List.length_append, List.length_cons, List.length_nil]; omega))) (wr := ([(x, .inr (5, [z0, z1, z2, .ref fa, z4, z5, .int pr, .int fc])), (fa, aF E (60) (ga))] ++ zz E fo fd (R60.erase (y.toInt.toNat - 1)))) (As := [.int x106]) (rest := []) (Spl.atZ [0, 1] [2, 3] rfl rfl rfl) 0 rfl rfl rfl rfl (Nat.le_of_ble_eq_true rfl) (by decide) (by omega) (by omega) (fun v w h => ?_)
                  obtain ⟨rfl, aq108, an108, af108, as108, au108, h1_108, h2_108, h3_108, h4_108, h5_108, rfl⟩ := h
                  refine g_tail ?_
                  change G E g ([(x, .inr (5, [z0, z1, z2, .ref fa, z4, z5, .int pr, .int fc])), (fa, aF E (60) (ga)), ((fo (y.toInt.toNat - 1)), .inr (2, [.int tgb, .int f1b, .int f2b, .ref aq108, .int as108, .int au108])), (aq108, aB E (an108) (af108))] ++ zz E fo fd (R60.erase (y.toInt.toNat - 1))) _ _ _ _ []
                  have ln108 : ((bdy (fT fl (y.toInt.toNat - 1)) (fB fl (y.toInt.toNat - 1))) ++ [u8 x106]).length = (bdy (fT fl (y.toInt.toNat - 1)) (fB fl (y.toInt.toNat - 1))).length + 1 := List.length_append
                  have u106 : u8 x106 = 31 := u8_of (n := 31) e106 (by omega)
                  refine g_aload C dX3_subfield2_111 2 rfl ?_
                  refine g_iload C dX3_subfield2_113 4 rfl ?_
                  refine g_callV C r mv_X3_133 dX3_subfield2_115 (c_X0_append g.l E (fo (y.toInt.toNat - 1)) aq108 (an108) (af108) tgb f1b f2b as108 au108 ((bdy (fT fl (y.toInt.toNat - 1)) (fB fl (y.toInt.toNat - 1))) ++ [u8 x106]) x32 1 3700 (by rw [h1_108]; simp only [List.length_append, List.length_cons, List.length_nil] <;> omega) h2_108 (B8_snoc (bdy_8 hW2) (u8_lt _)) (by simp only [List.length_append, List.length_cons, List.length_nil]; omega) (by omega) h3_108 (by omega) (h5_108 (by omega)) (by first | omega | (simp only [List.length_append, List.length_cons, List.length_nil]; omega))) (wr := ([(x, .inr (5, [z0, z1, z2, .ref fa, z4, z5, .int pr, .int fc])), (fa, aF E (60) (ga))] ++ zz E fo fd (R60.erase (y.toInt.toNat - 1)))) (As := [.int x32]) (rest := []) (Spl.atZ [0, 1] [2, 3] rfl rfl rfl) 0 rfl rfl rfl rfl (Nat.le_of_ble_eq_true rfl) (by decide) (by omega) (by omega) (fun v w h => ?_)
                  obtain ⟨rfl, aq115, an115, af115, as115, au115, h1_115, h2_115, h3_115, h4_115, h5_115, rfl⟩ := h
                  refine g_tail ?_
                  change G E g ([(x, .inr (5, [z0, z1, z2, .ref fa, z4, z5, .int pr, .int fc])), (fa, aF E (60) (ga)), ((fo (y.toInt.toNat - 1)), .inr (2, [.int tgb, .int f1b, .int f2b, .ref aq115, .int as115, .int au115])), (aq115, aB E (an115) (af115))] ++ zz E fo fd (R60.erase (y.toInt.toNat - 1))) _ _ _ _ []
                  have ln115 : ((bdy (fT fl (y.toInt.toNat - 1)) (fB fl (y.toInt.toNat - 1))) ++ [u8 x106] ++ [u8 x32]).length = ((bdy (fT fl (y.toInt.toNat - 1)) (fB fl (y.toInt.toNat - 1))) ++ [u8 x106]).length + 1 := List.length_append
                  refine g_aload C dX3_subfield2_118 2 rfl ?_
                  refine g_iload C dX3_subfield2_120 3 rfl ?_
                  refine g_callV C r mv_X3_133 dX3_subfield2_122 (c_X0_append g.l E (fo (y.toInt.toNat - 1)) aq115 (an115) (af115) tgb f1b f2b as115 au115 ((bdy (fT fl (y.toInt.toNat - 1)) (fB fl (y.toInt.toNat - 1))) ++ [u8 x106] ++ [u8 x32]) x11 1 3700 (by rw [h1_115]; simp only [List.length_append, List.length_cons, List.length_nil] <;> omega) h2_115 (B8_snoc (B8_snoc (bdy_8 hW2) (u8_lt _)) (u8_lt _)) (by simp only [List.length_append, List.length_cons, List.length_nil]; omega) (by omega) h3_115 (by omega) (h5_115 (by omega)) (by first | omega | (simp only [List.length_append, List.length_cons, List.length_nil]; omega))) (wr := ([(x, .inr (5, [z0, z1, z2, .ref fa, z4, z5, .int pr, .int fc])), (fa, aF E (60) (ga))] ++ zz E fo fd (R60.erase (y.toInt.toNat - 1)))) (As := [.int x11]) (rest := []) (Spl.atZ [0, 1] [2, 3] rfl rfl rfl) 0 rfl rfl rfl rfl (Nat.le_of_ble_eq_true rfl) (by decide) (by omega) (by omega) (fun v w h => ?_)
                  obtain ⟨rfl, aq122, an122, af122, as122, au122, h1_122, h2_122, h3_122, h4_122, h5_122, rfl⟩ := h
                  refine g_tail ?_
                  change G E g ([(x, .inr (5, [z0, z1, z2, .ref fa, z4, z5, .int pr, .int fc])), (fa, aF E (60) (ga)), ((fo (y.toInt.toNat - 1)), .inr (2, [.int tgb, .int f1b, .int f2b, .ref aq122, .int as122, .int au122])), (aq122, aB E (an122) (af122))] ++ zz E fo fd (R60.erase (y.toInt.toNat - 1))) _ _ _ _ []
                  refine g_unfocus (X := [(x, .inr (5, [z0, z1, z2, .ref fa, z4, z5, .int pr, .int fc])), (fa, aF E (60) (ga))]) (y.toInt.toNat - 1) (by omega) ?_
                  change G E g ([(x, .inr (5, [z0, z1, z2, .ref fa, z4, z5, .int pr, .int fc])), (fa, aF E (60) (ga))] ++ zz E fo (va_up fd (y.toInt.toNat - 1) (tgb, f1b, f2b, as122, au122, aq122, an122, af122)) R60) _ _ _ _ _
                  exact g_vret C F dX3_subfield2_125 (by omega) (by omega) (by refine ⟨rfl, _, ⟨xs_pr hpr hfc hq, ?_, ?_, FG_up hFG h3_122 (by omega) (by omega)⟩, rfl⟩; rw [sub2_3 (by omega) (by omega) (by omega), addB_len, addB_len, addB_len]; exact hfc; rw [sub2_3 (by omega) (by omega) (by omega), ← u11, ← u32, ← u106]; exact xs_3 hXF (by omega) (fun q => (hW4 q).1) qTb (by omega) h2_122 (h5_122 (by omega)) (by omega) qIb)
              · exact g_vret C F dX3_subfield2_98 (by omega) (by omega) (by exact ⟨rfl, _, by by_cases h12 : 1200 ≤ tot fl fl.length; rw [sub2_0 (Or.inr (Or.inr h12))]; exact ⟨hpr, hfc, hXF, hFG⟩; rw [sub2_2 (by omega) (by omega) (by omega)]; exact ⟨hpr, hfc, hXF, hFG⟩, rfl⟩)
          · replace e70 := bl1 e70 c73
            exact g_vret C F dX3_subfield2_76 (by omega) (by omega) (by exact ⟨rfl, _, by by_cases h12 : 1200 ≤ tot fl fl.length; rw [sub2_0 (Or.inr (Or.inr h12))]; exact ⟨hpr, hfc, hXF, hFG⟩; rw [sub2_2 (by omega) (by omega) (by omega)]; exact ⟨hpr, hfc, hXF, hFG⟩, rfl⟩)
      refine g_aload C dX3_subfield2_35 2 rfl ?_
      refine gf_X3_78 C 2 rfl rfl dX3_subfield2_37 ?_
      refine g_callS C r ms_X3_85 dX3_subfield2_40 (c_X3_isControl g.l E tg) (wr := ([(x, .inr (5, [z0, z1, z2, .ref fa, z4, z5, .int pr, .int fc])), (fa, aF E (60) (ga)), ((fo (y.toInt.toNat - 1)), .inr (2, [.int tg, .int f1, .int f2, .ref bq, .int sz, .int su])), (bq, aB E (cp) (ff))] ++ zz E fo fd (R60.erase (y.toInt.toNat - 1)))) (As := [.int tg]) (rest := []) (Spl.atZ [0, 1, 2, 3] [] rfl rfl rfl) rfl (Nat.le_of_ble_eq_true rfl) (by decide) (by omega) (by omega) (fun v w h => ?_)
      obtain ⟨x40, rfl, e40, rfl⟩ := h
      refine g_tail ?_
      change G E g ([(x, .inr (5, [z0, z1, z2, .ref fa, z4, z5, .int pr, .int fc])), (fa, aF E (60) (ga)), ((fo (y.toInt.toNat - 1)), .inr (2, [.int tg, .int f1, .int f2, .ref bq, .int sz, .int su])), (bq, aB E (cp) (ff))] ++ zz E fo fd (R60.erase (y.toInt.toNat - 1))) _ _ _ _ [.int x40]
      refine g_if_ne C 60 dX3_subfield2_43 (by decide) (fun c43 => ?_) (fun c43 => ?_)
      · replace e40 := bl1 e40 c43
        refine g_iconst C dX3_subfield2_60 (by decide) (fun x60 e60 => ?_)
        refine g_lv [3, 2, 1, 0] (lv' := [(0, .ref x), (4, .ref (fo (y.toInt.toNat - 1))), (5, .int x11), (6, .int x32)]) rfl ?_
        exact J61 (x60) (by omega)
      · replace e40 := bl0 e40 c43
        refine g_aload C dX3_subfield2_46 2 rfl ?_
        refine g_callV C r mv_X3_127 dX3_subfield2_48 (c_X0_lastCode g.l E (fo (y.toInt.toNat - 1)) bq cp ff tg f1 f2 sz su (bdy (fT fl (y.toInt.toNat - 1)) (fB fl (y.toInt.toNat - 1))) qL qB (bdy_8 hW2) qC (by omega)) (wr := ([(x, .inr (5, [z0, z1, z2, .ref fa, z4, z5, .int pr, .int fc])), (fa, aF E (60) (ga))] ++ zz E fo fd (R60.erase (y.toInt.toNat - 1)))) (As := []) (rest := []) (Spl.atZ [0, 1] [2, 3] rfl rfl rfl) 0 rfl rfl rfl rfl (Nat.le_of_ble_eq_true rfl) (by decide) (by omega) (by omega) (fun v w h => ?_)
        obtain ⟨x48, rfl, e48, rfl⟩ := h
        refine g_tail ?_
        change G E g ([(x, .inr (5, [z0, z1, z2, .ref fa, z4, z5, .int pr, .int fc])), (fa, aF E (60) (ga)), ((fo (y.toInt.toNat - 1)), .inr (2, [.int tg, .int f1, .int f2, .ref bq, .int sz, .int su])), (bq, aB E (cp) (ff))] ++ zz E fo fd (R60.erase (y.toInt.toNat - 1))) _ _ _ _ [.int x48]
        refine g_iload C dX3_subfield2_51 0 rfl ?_
        refine g_icmp_eq C 60 dX3_subfield2_53 (by decide) (fun c53 => ?_) (fun c53 => ?_)
        · refine g_iconst C dX3_subfield2_60 (by decide) (fun x60 e60 => ?_)
          refine g_lv [3, 2, 1, 0] (lv' := [(0, .ref x), (4, .ref (fo (y.toInt.toNat - 1))), (5, .int x11), (6, .int x32)]) rfl ?_
          exact J61 (x60) (by have hlc := xs_lc e48 (by omega); omega)
        · refine g_iconst C dX3_subfield2_56 (by decide) (fun x56 e56 => ?_)
          refine g_goto C 61 dX3_subfield2_57 (by decide) ?_
          refine g_lv [3, 2, 1, 0] (lv' := [(0, .ref x), (4, .ref (fo (y.toInt.toNat - 1))), (5, .int x11), (6, .int x32)]) rfl ?_
          exact J61 (x56) (by have hlc := xs_lc e48 (by omega); omega)
    · replace e21 := bl1 e21 c24
      exact g_vret C F dX3_subfield2_27 (by omega) (by omega) (by exact ⟨rfl, _, by rw [sub2_0 (by omega)]; exact ⟨hpr, hfc, hXF, hFG⟩, rfl⟩)
  · refine g_callV C r mv_X3_81 dX3_subfield2_2 (c_X3_numberedN g.l E x fa ga fo fc y (z0) (z1) (z2) (z4) (z5) (.int pr) hga (by omega) hq) (wr := ([] ++ zz E fo fd R60)) (As := [.int y]) (rest := []) (Spl.atZ [] [0, 1] rfl rfl rfl) 0 rfl rfl rfl rfl (Nat.le_of_ble_eq_true rfl) (by decide) (by omega) (by omega) (fun v w h => ?_)
    obtain ⟨rfl, rfl⟩ := h
    refine g_tail ?_
    change G E g ([(x, .inr (5, [z0, z1, z2, .ref fa, z4, z5, .int pr, .int fc])), (fa, aF E (60) (ga))] ++ zz E fo fd R60) _ _ _ _ [.null]
    refine g_astoreN C dX3_subfield2_5 (by rw [hN]; decide) (lv' := [(4, .null), (0, .ref x), (1, .int y), (2, .int z), (3, .int t)]) rfl ?_
    refine g_iload_n C dX3_subfield2_7 4 rfl ?_
    refine g_sipush C dX3_subfield2_8 (by decide) (fun x8 e8 => ?_)
    refine g_iand255 C dX3_subfield2_11 e8 (fun x11 e11 l11 => ?_)
    refine g_istore C dX3_subfield2_12 (by rw [hN]; decide) (lv' := [(5, .int x11), (4, .null), (0, .ref x), (1, .int y), (2, .int z), (3, .int t)]) rfl ?_
    refine g_aloadN C dX3_subfield2_14 1 rfl ?_
    refine g_ifnullN C 27 dX3_subfield2_16 (by decide) ?_
    exact g_vret C F dX3_subfield2_27 (by omega) (by omega) (by exact ⟨rfl, _, by rw [sub2_0 (by omega)]; exact ⟨hpr, hfc, hXF, hFG⟩, rfl⟩)
