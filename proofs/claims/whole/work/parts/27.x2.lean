set_option maxHeartbeats 1000000 in
set_option maxRecDepth 10000 in
theorem c_X3_field (l : Launch) (E : GE) (x fa : Nat) (ga : Nat → Option Nat) (fo : Nat → Nat) (fd : Nat → FV) (fl : FL) (pr fc : Int32) (y z : Int32) (z0 z1 z2 z4 z5 : Value) (hX : XPr pr fc fd fl) (hF : FW fl) (hga : ∀ j, j < 60 → ga j = some (fo j)) : Ctr l E yX3_field cX3_field 5 (some .int) 0 (0) (0) [.ref x, .int y, .int z] ([(x, .inr (5, [z0, z1, z2, .ref fa, z4, z5, .int pr, .int fc])), (fa, aF E (60) (ga))] ++ zz E fo fd R60) (oI (fun r => r.toInt = fF fl y.toInt z.toInt fl.length 0 0) ([(x, .inr (5, [z0, z1, z2, .ref fa, z4, z5, .int pr, .int fc])), (fa, aF E (60) (ga))] ++ zz E fo fd R60)) := by
  refine Ctr.intro (by decide) (Nat.le_of_ble_eq_true rfl) (fun g hgl hN C r F hi => ?_)
  subst hgl
  have hfl := hF.1
  obtain ⟨hpr, hfc, hXF, hFG⟩ := hX
  change G E g ([(x, .inr (5, [z0, z1, z2, .ref fa, z4, z5, .int pr, .int fc])), (fa, aF E (60) (ga))] ++ zz E fo fd R60) 0 0 0 [(0, .ref x), (1, .int y), (2, .int z)] []
  refine g_iconst C dX3_field_0 (by decide) (fun x0 e0 => ?_)
  refine g_istore_n C dX3_field_1 (by rw [hN]; decide) (lv' := [(3, .int x0), (0, .ref x), (1, .int y), (2, .int z)]) rfl ?_
  refine g_iconst C dX3_field_2 (by decide) (fun x2 e2 => ?_)
  refine g_istore C dX3_field_3 (by rw [hN]; decide) (lv' := [(4, .int x2), (3, .int x0), (0, .ref x), (1, .int y), (2, .int z)]) rfl ?_
  have loop5 : ∀ (nn : Nat) (n3 : Int32) (n4 : Int32) (k : Nat) (hm : fl.length - k < nn) (hk : k ≤ fl.length) (hp : n4.toInt = (k : Int)) (hb : 0 ≤ n3.toInt ∧ n3.toInt ≤ (k : Int)) (hn : fF fl y.toInt z.toInt fl.length 0 0 = fF fl y.toInt z.toInt (fl.length - k) k n3.toInt), G E g ([(x, .inr (5, [z0, z1, z2, .ref fa, z4, z5, .int pr, .int fc])), (fa, aF E (60) (ga))] ++ zz E fo fd R60) 0 0 5 [(0, .ref x), (1, .int y), (2, .int z), (3, .int n3), (4, .int n4)] [] := by
    intro nn
    induction nn with
    | zero => intro n3 n4 k hm hk hp hb hn; omega
    | succ nn ih5 =>
      intro n3 n4 k hm hk hp hb hn
      refine g_iload C dX3_field_5 4 rfl ?_
      refine g_aload_n C dX3_field_7 0 rfl ?_
      refine gf_X3_46 C 0 rfl rfl dX3_field_8 ?_
      refine g_icmp_ge C 47 dX3_field_11 (by decide) (fun c11 => ?_) (fun c11 => ?_)
      · refine g_iconst C dX3_field_47 (by decide) (fun x47 e47 => ?_)
        exact g_iret C F dX3_field_48 rfl rfl (Nat.le_refl _) (Nat.le_refl _) (by refine ⟨_, rfl, ?_, rfl⟩; show _ = _; rw [hn, fF_zero (by omega)]; omega)
      · refine g_aload_n C dX3_field_14 0 rfl ?_
        refine gf_X3_29 C 0 rfl rfl dX3_field_15 ?_
        refine g_iload C dX3_field_18 4 rfl ?_
        refine g_aaload C 1 rfl dX3_field_20 (k) (by omega) (by omega) (r := (fo (k))) (hga _ (by omega)) ?_
        rcases hfd : fd (k) with ⟨tg, f1, f2, sz, su, bq, cp, ff⟩
        obtain ⟨qT, qL, qB, qS, qC, qI⟩ := XF_at hXF (i := k) (by omega) hfd
        obtain ⟨hW1, hW2, hW3, hW4, hW5⟩ := hF.2 (k) (by omega)
        obtain ⟨gB, gC, gD⟩ := FG_at hFG (i := k) (by omega) hfd
        refine g_focus (X := [(x, .inr (5, [z0, z1, z2, .ref fa, z4, z5, .int pr, .int fc])), (fa, aF E (60) (ga))]) (k) (by omega) hfd ?_
        change G E g ([(x, .inr (5, [z0, z1, z2, .ref fa, z4, z5, .int pr, .int fc])), (fa, aF E (60) (ga)), ((fo (k)), .inr (2, [.int tg, .int f1, .int f2, .ref bq, .int sz, .int su])), (bq, aB E (cp) (ff))] ++ zz E fo fd (R60.erase (k))) _ _ _ _ _
        refine gf_X3_78 C 2 rfl rfl dX3_field_21 ?_
        refine g_unfocus0 (X := [(x, .inr (5, [z0, z1, z2, .ref fa, z4, z5, .int pr, .int fc])), (fa, aF E (60) (ga))]) (k) (by omega) hfd ?_
        change G E g ([(x, .inr (5, [z0, z1, z2, .ref fa, z4, z5, .int pr, .int fc])), (fa, aF E (60) (ga))] ++ zz E fo fd R60) _ _ _ _ _
        refine g_iload_n C dX3_field_24 1 rfl ?_
        refine g_icmp_ne C 41 dX3_field_25 (by decide) (fun c25 => ?_) (fun c25 => ?_)
        · refine g_iinc C dX3_field_41 4 rfl (by rw [hN]; decide) (by decide) (by omega) (fun x41 e41 => ?_)
          refine g_lvE (lv' := [(4, .int x41), (0, .ref x), (1, .int y), (2, .int z), (3, .int n3)]) rfl ?_
          refine g_goto C 5 dX3_field_44 (by decide) ?_
          refine g_lv [1, 2, 3, 4, 0] (lv' := [(0, .ref x), (1, .int y), (2, .int z), (3, .int n3), (4, .int x41)]) rfl ?_
          exact ih5 (n3) (x41) (k + 1) (by omega) (by omega) (by omega) (by omega) (by rw [hn, fF_no (by omega) (by omega), show fl.length - k - 1 = fl.length - (k + 1) by omega])
        · refine g_iload_n C dX3_field_28 3 rfl ?_
          refine g_iload_n C dX3_field_29 2 rfl ?_
          refine g_icmp_ne C 38 dX3_field_30 (by decide) (fun c30 => ?_) (fun c30 => ?_)
          · refine g_iinc C dX3_field_38 3 rfl (by rw [hN]; decide) (by decide) (by omega) (fun x38 e38 => ?_)
            refine g_lvE (lv' := [(3, .int x38), (0, .ref x), (1, .int y), (2, .int z), (4, .int n4)]) rfl ?_
            refine g_iinc C dX3_field_41 4 rfl (by rw [hN]; decide) (by decide) (by omega) (fun x41 e41 => ?_)
            refine g_lvE (lv' := [(4, .int x41), (3, .int x38), (0, .ref x), (1, .int y), (2, .int z)]) rfl ?_
            refine g_goto C 5 dX3_field_44 (by decide) ?_
            refine g_lv [2, 3, 4, 1, 0] (lv' := [(0, .ref x), (1, .int y), (2, .int z), (3, .int x38), (4, .int x41)]) rfl ?_
            exact ih5 (x38) (x41) (k + 1) (by omega) (by omega) (by omega) (by omega) (by rw [hn, fF_go (by omega) (by omega) (by omega), ← e38, show fl.length - k - 1 = fl.length - (k + 1) by omega])
          · refine g_iload C dX3_field_33 4 rfl ?_
            refine g_iconst C dX3_field_35 (by decide) (fun x35 e35 => ?_)
            refine g_iadd C dX3_field_36 (by omega) (fun x36 e36 => ?_)
            exact g_iret C F dX3_field_37 rfl rfl (Nat.le_refl _) (Nat.le_refl _) (by refine ⟨_, rfl, ?_, rfl⟩; show _ = _; rw [hn, fF_yes (by omega) (by omega) (by omega)]; omega)
  refine g_lv [2, 3, 4, 1, 0] (lv' := [(0, .ref x), (1, .int y), (2, .int z), (3, .int x0), (4, .int x2)]) rfl ?_
  exact loop5 _ (x0) (x2) (0) (Nat.lt_succ_self _) (by omega) (by omega) (by omega) (by rw [e0]; rfl)
set_option maxHeartbeats 1000000 in
set_option maxRecDepth 10000 in
theorem c_X3_indicator (l : Launch) (E : GE) (x fa : Nat) (ga : Nat → Option Nat) (fo : Nat → Nat) (fd : Nat → FV) (fl : FL) (pr fc : Int32) (y z : Int32) (z0 z1 z2 z4 z5 : Value) (hX : XPr pr fc fd fl) (hF : FW fl) (hga : ∀ j, j < 60 → ga j = some (fo j)) : Ctr l E yX3_indicator cX3_indicator 4 (some .int) 1 (0) (0) [.ref x, .int y, .int z] ([(x, .inr (5, [z0, z1, z2, .ref fa, z4, z5, .int pr, .int fc])), (fa, aF E (60) (ga))] ++ zz E fo fd R60) (oI (fun r => ((0 < y.toInt ∧ y.toInt ≤ (fl.length : Int) ∧ 9 < fT fl (y.toInt.toNat - 1) ∧ 0 ≤ z.toInt ∧ z.toInt ≤ 1) ∧ r.toInt = ((fB fl (y.toInt.toNat - 1)).getD z.toInt.toNat 0 : Int)) ∨ (¬ (0 < y.toInt ∧ y.toInt ≤ (fl.length : Int) ∧ 9 < fT fl (y.toInt.toNat - 1) ∧ 0 ≤ z.toInt ∧ z.toInt ≤ 1) ∧ r.toInt = -1)) ([(x, .inr (5, [z0, z1, z2, .ref fa, z4, z5, .int pr, .int fc])), (fa, aF E (60) (ga))] ++ zz E fo fd R60)) := by
  refine Ctr.intro (by decide) (Nat.le_of_ble_eq_true rfl) (fun g hgl hN C r F hi => ?_)
  subst hgl
  have hfl := hF.1
  obtain ⟨hpr, hfc, hXF, hFG⟩ := hX
  change G E g ([(x, .inr (5, [z0, z1, z2, .ref fa, z4, z5, .int pr, .int fc])), (fa, aF E (60) (ga))] ++ zz E fo fd R60) 0 0 0 [(0, .ref x), (1, .int y), (2, .int z)] []
  refine g_aload_n C dX3_indicator_0 0 rfl ?_
  refine g_iload_n C dX3_indicator_1 1 rfl ?_
  by_cases hq : 1 ≤ y.toInt ∧ y.toInt ≤ fc.toInt
  · refine g_callV C r mv_X3_81 dX3_indicator_2 (c_X3_numberedY g.l E x fa ga fo fc y (z0) (z1) (z2) (z4) (z5) (.int pr) hga (by omega) hq) (wr := ([] ++ zz E fo fd R60)) (As := [.int y]) (rest := []) (Spl.atZ [] [0, 1] rfl rfl rfl) 0 rfl rfl rfl rfl (Nat.le_of_ble_eq_true rfl) (by decide) (Nat.le_refl _) (Nat.le_refl _) (fun v w h => ?_)
    obtain ⟨rfl, rfl⟩ := h
    refine g_tail ?_
    change G E g ([(x, .inr (5, [z0, z1, z2, .ref fa, z4, z5, .int pr, .int fc])), (fa, aF E (60) (ga))] ++ zz E fo fd R60) _ _ _ _ [.ref (fo (y.toInt.toNat - 1))]
    refine g_astore_n C dX3_indicator_5 (by rw [hN]; decide) (lv' := [(3, .ref (fo (y.toInt.toNat - 1))), (0, .ref x), (1, .int y), (2, .int z)]) rfl ?_
    refine g_aload_n C dX3_indicator_6 0 rfl ?_
    refine g_ifnull C dX3_indicator_7 ?_
    rcases hfd : fd (y.toInt.toNat - 1) with ⟨tg, f1, f2, sz, su, bq, cp, ff⟩
    obtain ⟨qT, qL, qB, qS, qC, qI⟩ := XF_at hXF (i := y.toInt.toNat - 1) (by omega) hfd
    obtain ⟨hW1, hW2, hW3, hW4, hW5⟩ := hF.2 (y.toInt.toNat - 1) (by omega)
    obtain ⟨gB, gC, gD⟩ := FG_at hFG (i := y.toInt.toNat - 1) (by omega) hfd
    refine g_focus (X := [(x, .inr (5, [z0, z1, z2, .ref fa, z4, z5, .int pr, .int fc])), (fa, aF E (60) (ga))]) (y.toInt.toNat - 1) (by omega) hfd ?_
    change G E g ([(x, .inr (5, [z0, z1, z2, .ref fa, z4, z5, .int pr, .int fc])), (fa, aF E (60) (ga)), ((fo (y.toInt.toNat - 1)), .inr (2, [.int tg, .int f1, .int f2, .ref bq, .int sz, .int su])), (bq, aB E (cp) (ff))] ++ zz E fo fd (R60.erase (y.toInt.toNat - 1))) _ _ _ _ _
    refine g_aload_n C dX3_indicator_10 0 rfl ?_
    refine gf_X3_78 C 2 rfl rfl dX3_indicator_11 ?_
    refine g_callS C r ms_X3_85 dX3_indicator_14 (c_X3_isControl g.l E tg) (wr := ([(x, .inr (5, [z0, z1, z2, .ref fa, z4, z5, .int pr, .int fc])), (fa, aF E (60) (ga)), ((fo (y.toInt.toNat - 1)), .inr (2, [.int tg, .int f1, .int f2, .ref bq, .int sz, .int su])), (bq, aB E (cp) (ff))] ++ zz E fo fd (R60.erase (y.toInt.toNat - 1)))) (As := [.int tg]) (rest := []) (Spl.atZ [0, 1, 2, 3] [] rfl rfl rfl) rfl (Nat.le_of_ble_eq_true rfl) (by decide) (Nat.le_refl _) (Nat.le_refl _) (fun v w h => ?_)
    obtain ⟨x14, rfl, e14, rfl⟩ := h
    refine g_tail ?_
    change G E g ([(x, .inr (5, [z0, z1, z2, .ref fa, z4, z5, .int pr, .int fc])), (fa, aF E (60) (ga)), ((fo (y.toInt.toNat - 1)), .inr (2, [.int tg, .int f1, .int f2, .ref bq, .int sz, .int su])), (bq, aB E (cp) (ff))] ++ zz E fo fd (R60.erase (y.toInt.toNat - 1))) _ _ _ _ [.int x14]
    refine g_if_eq C 22 dX3_indicator_17 (by decide) (fun c17 => ?_) (fun c17 => ?_)
    · replace e14 := bl0 e14 c17
      refine g_iload_n C dX3_indicator_22 3 rfl ?_
      refine g_if_ne C 31 dX3_indicator_23 (by decide) (fun c23 => ?_) (fun c23 => ?_)
      · refine g_iload_n C dX3_indicator_31 3 rfl ?_
        refine g_iconst C dX3_indicator_32 (by decide) (fun x32 e32 => ?_)
        refine g_icmp_ne C 43 dX3_indicator_33 (by decide) (fun c33 => ?_) (fun c33 => ?_)
        · refine g_iconst C dX3_indicator_43 (by decide) (fun x43 e43 => ?_)
          refine g_unfocus0 (X := [(x, .inr (5, [z0, z1, z2, .ref fa, z4, z5, .int pr, .int fc])), (fa, aF E (60) (ga))]) (y.toInt.toNat - 1) (by omega) hfd ?_
          change G E g ([(x, .inr (5, [z0, z1, z2, .ref fa, z4, z5, .int pr, .int fc])), (fa, aF E (60) (ga))] ++ zz E fo fd R60) _ _ _ _ _
          exact g_iret C F dX3_indicator_44 rfl rfl (Nat.le_refl _) (Nat.le_refl _) (by exact ⟨_, rfl, Or.inr ⟨by omega, by omega⟩, rfl⟩)
        · refine g_aload_n C dX3_indicator_36 0 rfl ?_
          refine gf_X3_92 C 2 rfl rfl dX3_indicator_37 ?_
          refine g_goto C 44 dX3_indicator_40 (by decide) ?_
          refine g_unfocus0 (X := [(x, .inr (5, [z0, z1, z2, .ref fa, z4, z5, .int pr, .int fc])), (fa, aF E (60) (ga))]) (y.toInt.toNat - 1) (by omega) hfd ?_
          change G E g ([(x, .inr (5, [z0, z1, z2, .ref fa, z4, z5, .int pr, .int fc])), (fa, aF E (60) (ga))] ++ zz E fo fd R60) _ _ _ _ _
          exact g_iret C F dX3_indicator_44 rfl rfl (Nat.le_refl _) (Nat.le_refl _) (by exact ⟨_, rfl, Or.inl ⟨by omega, by rw [(qI (by omega)).2, show z.toInt.toNat = 1 by omega]⟩, rfl⟩)
      · refine g_aload_n C dX3_indicator_26 0 rfl ?_
        refine gf_X3_89 C 2 rfl rfl dX3_indicator_27 ?_
        refine g_unfocus0 (X := [(x, .inr (5, [z0, z1, z2, .ref fa, z4, z5, .int pr, .int fc])), (fa, aF E (60) (ga))]) (y.toInt.toNat - 1) (by omega) hfd ?_
        change G E g ([(x, .inr (5, [z0, z1, z2, .ref fa, z4, z5, .int pr, .int fc])), (fa, aF E (60) (ga))] ++ zz E fo fd R60) _ _ _ _ _
        exact g_iret C F dX3_indicator_30 rfl rfl (Nat.le_refl _) (Nat.le_refl _) (by exact ⟨_, rfl, Or.inl ⟨by omega, by rw [(qI (by omega)).1, show z.toInt.toNat = 0 by omega]⟩, rfl⟩)
    · replace e14 := bl1 e14 c17
      refine g_unfocus0 (X := [(x, .inr (5, [z0, z1, z2, .ref fa, z4, z5, .int pr, .int fc])), (fa, aF E (60) (ga))]) (y.toInt.toNat - 1) (by omega) hfd ?_
      change G E g ([(x, .inr (5, [z0, z1, z2, .ref fa, z4, z5, .int pr, .int fc])), (fa, aF E (60) (ga))] ++ zz E fo fd R60) _ _ _ _ _
      refine g_iconst C dX3_indicator_20 (by decide) (fun x20 e20 => ?_)
      exact g_iret C F dX3_indicator_21 rfl rfl (Nat.le_refl _) (Nat.le_refl _) (by exact ⟨_, rfl, Or.inr ⟨by omega, by omega⟩, rfl⟩)
  · refine g_callV C r mv_X3_81 dX3_indicator_2 (c_X3_numberedN g.l E x fa ga fo fc y (z0) (z1) (z2) (z4) (z5) (.int pr) hga (by omega) hq) (wr := ([] ++ zz E fo fd R60)) (As := [.int y]) (rest := []) (Spl.atZ [] [0, 1] rfl rfl rfl) 0 rfl rfl rfl rfl (Nat.le_of_ble_eq_true rfl) (by decide) (Nat.le_refl _) (Nat.le_refl _) (fun v w h => ?_)
    obtain ⟨rfl, rfl⟩ := h
    refine g_tail ?_
    change G E g ([(x, .inr (5, [z0, z1, z2, .ref fa, z4, z5, .int pr, .int fc])), (fa, aF E (60) (ga))] ++ zz E fo fd R60) _ _ _ _ [.null]
    refine g_astore_nN C dX3_indicator_5 (by rw [hN]; decide) (lv' := [(3, .null), (0, .ref x), (1, .int y), (2, .int z)]) rfl ?_
    refine g_aload_nN C dX3_indicator_6 0 rfl ?_
    refine g_ifnullN C 20 dX3_indicator_7 (by decide) ?_
    refine g_iconst C dX3_indicator_20 (by decide) (fun x20 e20 => ?_)
    exact g_iret C F dX3_indicator_21 rfl rfl (Nat.le_refl _) (Nat.le_refl _) (by exact ⟨_, rfl, Or.inr ⟨by omega, by omega⟩, rfl⟩)
set_option maxHeartbeats 3000000 in
set_option maxRecDepth 10000 in
theorem c_X3_subfield (l : Launch) (E : GE) (x fa : Nat) (ga : Nat → Option Nat) (fo : Nat → Nat) (fd : Nat → FV) (fl : FL) (pr fc : Int32) (y z u t : Int32) (z0 z1 z2 z4 z5 : Value) (hX : XPr pr fc fd fl) (hF : FW fl) (hga : ∀ j, j < 60 → ga j = some (fo j)) : Ctr l E yX3_subfield cX3_subfield 7 (some .int) 2 (0) (0) [.ref x, .int y, .int z, .int u, .int t] ([(x, .inr (5, [z0, z1, z2, .ref fa, z4, z5, .int pr, .int fc])), (fa, aF E (60) (ga))] ++ zz E fo fd R60) (oI (fun r => r.toInt = sfS fl y.toInt z.toInt u.toInt t.toInt) ([(x, .inr (5, [z0, z1, z2, .ref fa, z4, z5, .int pr, .int fc])), (fa, aF E (60) (ga))] ++ zz E fo fd R60)) := by
  refine Ctr.intro (by decide) (Nat.le_of_ble_eq_true rfl) (fun g hgl hN C r F hi => ?_)
  subst hgl
  have hfl := hF.1
  obtain ⟨hpr, hfc, hXF, hFG⟩ := hX
  change G E g ([(x, .inr (5, [z0, z1, z2, .ref fa, z4, z5, .int pr, .int fc])), (fa, aF E (60) (ga))] ++ zz E fo fd R60) 0 0 0 [(0, .ref x), (1, .int y), (2, .int z), (3, .int u), (4, .int t)] []
  refine g_aload_n C dX3_subfield_0 0 rfl ?_
  refine g_iload_n C dX3_subfield_1 1 rfl ?_
  by_cases hq : 1 ≤ y.toInt ∧ y.toInt ≤ fc.toInt
  · refine g_callV C r mv_X3_81 dX3_subfield_2 (c_X3_numberedY g.l E x fa ga fo fc y (z0) (z1) (z2) (z4) (z5) (.int pr) hga (by omega) hq) (wr := ([] ++ zz E fo fd R60)) (As := [.int y]) (rest := []) (Spl.atZ [] [0, 1] rfl rfl rfl) 0 rfl rfl rfl rfl (Nat.le_of_ble_eq_true rfl) (by decide) (Nat.le_refl _) (Nat.le_refl _) (fun v w h => ?_)
    obtain ⟨rfl, rfl⟩ := h
    refine g_tail ?_
    change G E g ([(x, .inr (5, [z0, z1, z2, .ref fa, z4, z5, .int pr, .int fc])), (fa, aF E (60) (ga))] ++ zz E fo fd R60) _ _ _ _ [.ref (fo (y.toInt.toNat - 1))]
    refine g_astore C dX3_subfield_5 (by rw [hN]; decide) (lv' := [(5, .ref (fo (y.toInt.toNat - 1))), (0, .ref x), (1, .int y), (2, .int z), (3, .int u), (4, .int t)]) rfl ?_
    refine g_aload C dX3_subfield_7 0 rfl ?_
    refine g_ifnonnull C 14 dX3_subfield_9 (by decide) ?_
    rcases hfd : fd (y.toInt.toNat - 1) with ⟨tg, f1, f2, sz, su, bq, cp, ff⟩
    obtain ⟨qT, qL, qB, qS, qC, qI⟩ := XF_at hXF (i := y.toInt.toNat - 1) (by omega) hfd
    obtain ⟨hW1, hW2, hW3, hW4, hW5⟩ := hF.2 (y.toInt.toNat - 1) (by omega)
    obtain ⟨gB, gC, gD⟩ := FG_at hFG (i := y.toInt.toNat - 1) (by omega) hfd
    refine g_focus (X := [(x, .inr (5, [z0, z1, z2, .ref fa, z4, z5, .int pr, .int fc])), (fa, aF E (60) (ga))]) (y.toInt.toNat - 1) (by omega) hfd ?_
    change G E g ([(x, .inr (5, [z0, z1, z2, .ref fa, z4, z5, .int pr, .int fc])), (fa, aF E (60) (ga)), ((fo (y.toInt.toNat - 1)), .inr (2, [.int tg, .int f1, .int f2, .ref bq, .int sz, .int su])), (bq, aB E (cp) (ff))] ++ zz E fo fd (R60.erase (y.toInt.toNat - 1))) _ _ _ _ _
    refine g_aload C dX3_subfield_14 0 rfl ?_
    refine gf_X3_78 C 2 rfl rfl dX3_subfield_16 ?_
    refine g_callS C r ms_X3_85 dX3_subfield_19 (c_X3_isControl g.l E tg) (wr := ([(x, .inr (5, [z0, z1, z2, .ref fa, z4, z5, .int pr, .int fc])), (fa, aF E (60) (ga)), ((fo (y.toInt.toNat - 1)), .inr (2, [.int tg, .int f1, .int f2, .ref bq, .int sz, .int su])), (bq, aB E (cp) (ff))] ++ zz E fo fd (R60.erase (y.toInt.toNat - 1)))) (As := [.int tg]) (rest := []) (Spl.atZ [0, 1, 2, 3] [] rfl rfl rfl) rfl (Nat.le_of_ble_eq_true rfl) (by decide) (Nat.le_refl _) (Nat.le_refl _) (fun v w h => ?_)
    obtain ⟨x19, rfl, e19, rfl⟩ := h
    refine g_tail ?_
    change G E g ([(x, .inr (5, [z0, z1, z2, .ref fa, z4, z5, .int pr, .int fc])), (fa, aF E (60) (ga)), ((fo (y.toInt.toNat - 1)), .inr (2, [.int tg, .int f1, .int f2, .ref bq, .int sz, .int su])), (bq, aB E (cp) (ff))] ++ zz E fo fd (R60.erase (y.toInt.toNat - 1))) _ _ _ _ [.int x19]
    refine g_if_eq C 33 dX3_subfield_22 (by decide) (fun c22 => ?_) (fun c22 => ?_)
    · replace e19 := bl0 e19 c22
      refine g_aload C dX3_subfield_33 0 rfl ?_
      refine g_iload_n C dX3_subfield_35 4 rfl ?_
      refine g_iload_n C dX3_subfield_36 3 rfl ?_
      refine g_callV C r mv_X3_98 dX3_subfield_37 (c_X0_subfieldStart g.l E (fo (y.toInt.toNat - 1)) bq cp ff tg f1 f2 sz su (bdy (fT fl (y.toInt.toNat - 1)) (fB fl (y.toInt.toNat - 1))) u z qL qB (bdy_8 hW2) qC (by omega)) (wr := ([(x, .inr (5, [z0, z1, z2, .ref fa, z4, z5, .int pr, .int fc])), (fa, aF E (60) (ga))] ++ zz E fo fd (R60.erase (y.toInt.toNat - 1)))) (As := [.int u, .int z]) (rest := []) (Spl.atZ [0, 1] [2, 3] rfl rfl rfl) 0 rfl rfl rfl rfl (Nat.le_of_ble_eq_true rfl) (by decide) (Nat.le_refl _) (Nat.le_refl _) (fun v w h => ?_)
      obtain ⟨x37, rfl, e37, rfl⟩ := h
      refine g_tail ?_
      change G E g ([(x, .inr (5, [z0, z1, z2, .ref fa, z4, z5, .int pr, .int fc])), (fa, aF E (60) (ga)), ((fo (y.toInt.toNat - 1)), .inr (2, [.int tg, .int f1, .int f2, .ref bq, .int sz, .int su])), (bq, aB E (cp) (ff))] ++ zz E fo fd (R60.erase (y.toInt.toNat - 1))) _ _ _ _ [.int x37]
      have hsr := sIx_rng (bd := (bdy (fT fl (y.toInt.toNat - 1)) (fB fl (y.toInt.toNat - 1)))) (code := u.toInt) (i := z.toInt) ((bdy (fT fl (y.toInt.toNat - 1)) (fB fl (y.toInt.toNat - 1))).length - 1) 0 0
      have hbl := bdy_le (fT fl (y.toInt.toNat - 1)) (fB fl (y.toInt.toNat - 1))
      refine g_istore C dX3_subfield_40 (by rw [hN]; decide) (lv' := [(6, .int x37), (5, .ref (fo (y.toInt.toNat - 1))), (0, .ref x), (1, .int y), (2, .int z), (3, .int u), (4, .int t)]) rfl ?_
      refine g_iload C dX3_subfield_42 0 rfl ?_
      refine g_iconst C dX3_subfield_44 (by decide) (fun x44 e44 => ?_)
      refine g_icmp_eq C 68 dX3_subfield_45 (by decide) (fun c45 => ?_) (fun c45 => ?_)
      · skip
        refine g_unfocus0 (X := [(x, .inr (5, [z0, z1, z2, .ref fa, z4, z5, .int pr, .int fc])), (fa, aF E (60) (ga))]) (y.toInt.toNat - 1) (by omega) hfd ?_
        change G E g ([(x, .inr (5, [z0, z1, z2, .ref fa, z4, z5, .int pr, .int fc])), (fa, aF E (60) (ga))] ++ zz E fo fd R60) _ _ _ _ _
        refine g_iconst C dX3_subfield_68 (by decide) (fun x68 e68 => ?_)
        exact g_iret C F dX3_subfield_69 rfl rfl (Nat.le_refl _) (Nat.le_refl _) (by refine ⟨_, rfl, ?_, rfl⟩; show _ = _; rw [xsf_no (by omega) (by omega) (e37.symm.trans (by omega))]; omega)
      · refine g_iload C dX3_subfield_48 6 rfl ?_
        refine g_if_lt C 68 dX3_subfield_50 (by decide) (fun c50 => ?_) (fun c50 => ?_)
        · skip
          refine g_unfocus0 (X := [(x, .inr (5, [z0, z1, z2, .ref fa, z4, z5, .int pr, .int fc])), (fa, aF E (60) (ga))]) (y.toInt.toNat - 1) (by omega) hfd ?_
          change G E g ([(x, .inr (5, [z0, z1, z2, .ref fa, z4, z5, .int pr, .int fc])), (fa, aF E (60) (ga))] ++ zz E fo fd R60) _ _ _ _ _
          refine g_iconst C dX3_subfield_68 (by decide) (fun x68 e68 => ?_)
          exact g_iret C F dX3_subfield_69 rfl rfl (Nat.le_refl _) (Nat.le_refl _) (by refine ⟨_, rfl, ?_, rfl⟩; show _ = _; rw [sfS_0 (by omega)]; omega)
        · refine g_iload C dX3_subfield_53 6 rfl ?_
          refine g_aload C dX3_subfield_55 1 rfl ?_
          refine g_iload C dX3_subfield_57 0 rfl ?_
          refine g_callV C r mv_X3_101 dX3_subfield_59 (c_X0_subfieldEnd g.l E (fo (y.toInt.toNat - 1)) bq cp ff tg f1 f2 sz su (bdy (fT fl (y.toInt.toNat - 1)) (fB fl (y.toInt.toNat - 1))) x37 (x37.toInt.toNat) qL qB (bdy_8 hW2) qC (by omega) (by omega) (by omega)) (wr := ([(x, .inr (5, [z0, z1, z2, .ref fa, z4, z5, .int pr, .int fc])), (fa, aF E (60) (ga))] ++ zz E fo fd (R60.erase (y.toInt.toNat - 1)))) (As := [.int x37]) (rest := [.int t]) (Spl.atZ [0, 1] [2, 3] rfl rfl rfl) 0 rfl rfl rfl rfl (Nat.le_of_ble_eq_true rfl) (by decide) (Nat.le_refl _) (Nat.le_refl _) (fun v w h => ?_)
          obtain ⟨x59, rfl, e59, rfl⟩ := h
          refine g_tail ?_
          change G E g ([(x, .inr (5, [z0, z1, z2, .ref fa, z4, z5, .int pr, .int fc])), (fa, aF E (60) (ga)), ((fo (y.toInt.toNat - 1)), .inr (2, [.int tg, .int f1, .int f2, .ref bq, .int sz, .int su])), (bq, aB E (cp) (ff))] ++ zz E fo fd (R60.erase (y.toInt.toNat - 1))) _ _ _ _ [.int x59, .int t]
          have her := sEn_rng (bd := (bdy (fT fl (y.toInt.toNat - 1)) (fB fl (y.toInt.toNat - 1)))) ((bdy (fT fl (y.toInt.toNat - 1)) (fB fl (y.toInt.toNat - 1))).length - x37.toInt.toNat) x37.toInt.toNat
          refine g_iload C dX3_subfield_62 0 rfl ?_
          refine g_isub C dX3_subfield_64 (by omega) (fun x64 e64 => ?_)
          refine g_icmp_lt C 70 dX3_subfield_65 (by decide) (fun c65 => ?_) (fun c65 => ?_)
          · refine g_aload C dX3_subfield_70 1 rfl ?_
            refine g_iload C dX3_subfield_72 0 rfl ?_
            refine g_iload C dX3_subfield_74 6 rfl ?_
            refine g_iadd C dX3_subfield_76 (by omega) (fun x76 e76 => ?_)
            refine g_callV C r mv_X3_95 dX3_subfield_77 (c_X0_at g.l E (fo (y.toInt.toNat - 1)) bq cp ff tg f1 f2 sz su (bdy (fT fl (y.toInt.toNat - 1)) (fB fl (y.toInt.toNat - 1))) x76 qL qB (bdy_8 hW2) qC (by omega)) (wr := ([(x, .inr (5, [z0, z1, z2, .ref fa, z4, z5, .int pr, .int fc])), (fa, aF E (60) (ga))] ++ zz E fo fd (R60.erase (y.toInt.toNat - 1)))) (As := [.int x76]) (rest := []) (Spl.atZ [0, 1] [2, 3] rfl rfl rfl) 0 rfl rfl rfl rfl (Nat.le_of_ble_eq_true rfl) (by decide) (Nat.le_refl _) (Nat.le_refl _) (fun v w h => ?_)
            obtain ⟨x77, rfl, e77, rfl⟩ := h
            refine g_tail ?_
            change G E g ([(x, .inr (5, [z0, z1, z2, .ref fa, z4, z5, .int pr, .int fc])), (fa, aF E (60) (ga)), ((fo (y.toInt.toNat - 1)), .inr (2, [.int tg, .int f1, .int f2, .ref bq, .int sz, .int su])), (bq, aB E (cp) (ff))] ++ zz E fo fd (R60.erase (y.toInt.toNat - 1))) _ _ _ _ [.int x77]
            refine g_unfocus0 (X := [(x, .inr (5, [z0, z1, z2, .ref fa, z4, z5, .int pr, .int fc])), (fa, aF E (60) (ga))]) (y.toInt.toNat - 1) (by omega) hfd ?_
            change G E g ([(x, .inr (5, [z0, z1, z2, .ref fa, z4, z5, .int pr, .int fc])), (fa, aF E (60) (ga))] ++ zz E fo fd R60) _ _ _ _ _
            exact g_iret C F dX3_subfield_80 rfl rfl (Nat.le_refl _) (Nat.le_refl _) (by refine ⟨_, rfl, ?_, rfl⟩; show _ = _; rw [xsf_in (st := x37.toInt.toNat) (by omega) (by omega) (by omega) (e37.symm.trans (by omega)) e59 (by omega), e77]; congr 1; omega)
          · skip
            refine g_unfocus0 (X := [(x, .inr (5, [z0, z1, z2, .ref fa, z4, z5, .int pr, .int fc])), (fa, aF E (60) (ga))]) (y.toInt.toNat - 1) (by omega) hfd ?_
            change G E g ([(x, .inr (5, [z0, z1, z2, .ref fa, z4, z5, .int pr, .int fc])), (fa, aF E (60) (ga))] ++ zz E fo fd R60) _ _ _ _ _
            refine g_iconst C dX3_subfield_68 (by decide) (fun x68 e68 => ?_)
            exact g_iret C F dX3_subfield_69 rfl rfl (Nat.le_refl _) (Nat.le_refl _) (by refine ⟨_, rfl, ?_, rfl⟩; show _ = _; rw [xsf_out (st := x37.toInt.toNat) (by omega) (by omega) (by omega) (e37.symm.trans (by omega)) e59 (by omega)]; omega)
    · replace e19 := bl1 e19 c22
      refine g_aload C dX3_subfield_25 0 rfl ?_
      refine g_iload C dX3_subfield_27 5 rfl ?_
      refine g_callV C r mv_X3_95 dX3_subfield_29 (c_X0_at g.l E (fo (y.toInt.toNat - 1)) bq cp ff tg f1 f2 sz su (bdy (fT fl (y.toInt.toNat - 1)) (fB fl (y.toInt.toNat - 1))) t qL qB (bdy_8 hW2) qC (by omega)) (wr := ([(x, .inr (5, [z0, z1, z2, .ref fa, z4, z5, .int pr, .int fc])), (fa, aF E (60) (ga))] ++ zz E fo fd (R60.erase (y.toInt.toNat - 1)))) (As := [.int t]) (rest := []) (Spl.atZ [0, 1] [2, 3] rfl rfl rfl) 0 rfl rfl rfl rfl (Nat.le_of_ble_eq_true rfl) (by decide) (Nat.le_refl _) (Nat.le_refl _) (fun v w h => ?_)
      obtain ⟨x29, rfl, e29, rfl⟩ := h
      refine g_tail ?_
      change G E g ([(x, .inr (5, [z0, z1, z2, .ref fa, z4, z5, .int pr, .int fc])), (fa, aF E (60) (ga)), ((fo (y.toInt.toNat - 1)), .inr (2, [.int tg, .int f1, .int f2, .ref bq, .int sz, .int su])), (bq, aB E (cp) (ff))] ++ zz E fo fd (R60.erase (y.toInt.toNat - 1))) _ _ _ _ [.int x29]
      refine g_unfocus0 (X := [(x, .inr (5, [z0, z1, z2, .ref fa, z4, z5, .int pr, .int fc])), (fa, aF E (60) (ga))]) (y.toInt.toNat - 1) (by omega) hfd ?_
      change G E g ([(x, .inr (5, [z0, z1, z2, .ref fa, z4, z5, .int pr, .int fc])), (fa, aF E (60) (ga))] ++ zz E fo fd R60) _ _ _ _ _
      exact g_iret C F dX3_subfield_32 rfl rfl (Nat.le_refl _) (Nat.le_refl _) (by refine ⟨_, rfl, ?_, rfl⟩; show _ = _; exact xsf_c (by omega) (by omega) e29)
  · refine g_callV C r mv_X3_81 dX3_subfield_2 (c_X3_numberedN g.l E x fa ga fo fc y (z0) (z1) (z2) (z4) (z5) (.int pr) hga (by omega) hq) (wr := ([] ++ zz E fo fd R60)) (As := [.int y]) (rest := []) (Spl.atZ [] [0, 1] rfl rfl rfl) 0 rfl rfl rfl rfl (Nat.le_of_ble_eq_true rfl) (by decide) (Nat.le_refl _) (Nat.le_refl _) (fun v w h => ?_)
    obtain ⟨rfl, rfl⟩ := h
    refine g_tail ?_
    change G E g ([(x, .inr (5, [z0, z1, z2, .ref fa, z4, z5, .int pr, .int fc])), (fa, aF E (60) (ga))] ++ zz E fo fd R60) _ _ _ _ [.null]
    refine g_astoreN C dX3_subfield_5 (by rw [hN]; decide) (lv' := [(5, .null), (0, .ref x), (1, .int y), (2, .int z), (3, .int u), (4, .int t)]) rfl ?_
    refine g_aloadN C dX3_subfield_7 0 rfl ?_
    refine g_ifnonnullN C dX3_subfield_9 ?_
    refine g_iconst C dX3_subfield_12 (by decide) (fun x12 e12 => ?_)
    exact g_iret C F dX3_subfield_13 rfl rfl (Nat.le_refl _) (Nat.le_refl _) (by refine ⟨_, rfl, ?_, rfl⟩; show _ = _; rw [sfS_0 (by omega)]; omega)
set_option maxHeartbeats 1000000 in
set_option maxRecDepth 10000 in
theorem c_X3_heldBytes (l : Launch) (E : GE) (x fa : Nat) (ga : Nat → Option Nat) (fo : Nat → Nat) (fd : Nat → FV) (fl : FL) (pr fc : Int32) (z0 z1 z2 z4 z5 : Value) (hX : XPr pr fc fd fl) (hF : FW fl) (hga : ∀ j, j < 60 → ga j = some (fo j)) : Ctr l E yX3_heldBytes cX3_heldBytes 3 (some .int) 3 (0) (0) [.ref x] ([(x, .inr (5, [z0, z1, z2, .ref fa, z4, z5, .int pr, .int fc])), (fa, aF E (60) (ga))] ++ zz E fo fd R60) (oI (fun r => r.toInt = (tot fl fl.length : Int)) ([(x, .inr (5, [z0, z1, z2, .ref fa, z4, z5, .int pr, .int fc])), (fa, aF E (60) (ga))] ++ zz E fo fd R60)) := by
  refine Ctr.intro (by decide) (Nat.le_of_ble_eq_true rfl) (fun g hgl hN C r F hi => ?_)
  subst hgl
  have hfl := hF.1
  obtain ⟨hpr, hfc, hXF, hFG⟩ := hX
  change G E g ([(x, .inr (5, [z0, z1, z2, .ref fa, z4, z5, .int pr, .int fc])), (fa, aF E (60) (ga))] ++ zz E fo fd R60) 0 0 0 [(0, .ref x)] []
  refine g_iconst C dX3_heldBytes_0 (by decide) (fun x0 e0 => ?_)
  refine g_istore_n C dX3_heldBytes_1 (by rw [hN]; decide) (lv' := [(1, .int x0), (0, .ref x)]) rfl ?_
  refine g_iconst C dX3_heldBytes_2 (by decide) (fun x2 e2 => ?_)
  refine g_istore_n C dX3_heldBytes_3 (by rw [hN]; decide) (lv' := [(2, .int x2), (1, .int x0), (0, .ref x)]) rfl ?_
  have loop4 : ∀ (nn : Nat) (n1 : Int32) (n2 : Int32) (k : Nat) (hm : fl.length - k < nn) (hk : k ≤ fl.length) (hp : n2.toInt = (k : Int)) (hs : n1.toInt = (tot fl k : Int)), G E g ([(x, .inr (5, [z0, z1, z2, .ref fa, z4, z5, .int pr, .int fc])), (fa, aF E (60) (ga))] ++ zz E fo fd R60) 0 0 4 [(0, .ref x), (1, .int n1), (2, .int n2)] [] := by
    intro nn
    induction nn with
    | zero => intro n1 n2 k hm hk hp hs; omega
    | succ nn ih4 =>
      intro n1 n2 k hm hk hp hs
      have hb := tot_le hF k hk
      refine g_iload_n C dX3_heldBytes_4 2 rfl ?_
      refine g_aload_n C dX3_heldBytes_5 0 rfl ?_
      refine gf_X3_46 C 0 rfl rfl dX3_heldBytes_6 ?_
      refine g_icmp_ge C 30 dX3_heldBytes_9 (by decide) (fun c9 => ?_) (fun c9 => ?_)
      · refine g_iload_n C dX3_heldBytes_30 1 rfl ?_
        exact g_iret C F dX3_heldBytes_31 rfl rfl (Nat.le_refl _) (Nat.le_refl _) (by refine ⟨_, rfl, ?_, rfl⟩; show _ = _; rw [hs, show k = fl.length by omega])
      · refine g_iload_n C dX3_heldBytes_12 1 rfl ?_
        refine g_aload_n C dX3_heldBytes_13 0 rfl ?_
        refine gf_X3_29 C 0 rfl rfl dX3_heldBytes_14 ?_
        refine g_iload_n C dX3_heldBytes_17 2 rfl ?_
        refine g_aaload C 1 rfl dX3_heldBytes_18 (k) (by omega) (by omega) (r := (fo (k))) (hga _ (by omega)) ?_
        rcases hfd : fd (k) with ⟨tg, f1, f2, sz, su, bq, cp, ff⟩
        obtain ⟨qT, qL, qB, qS, qC, qI⟩ := XF_at hXF (i := k) (by omega) hfd
        obtain ⟨hW1, hW2, hW3, hW4, hW5⟩ := hF.2 (k) (by omega)
        obtain ⟨gB, gC, gD⟩ := FG_at hFG (i := k) (by omega) hfd
        refine g_focus (X := [(x, .inr (5, [z0, z1, z2, .ref fa, z4, z5, .int pr, .int fc])), (fa, aF E (60) (ga))]) (k) (by omega) hfd ?_
        change G E g ([(x, .inr (5, [z0, z1, z2, .ref fa, z4, z5, .int pr, .int fc])), (fa, aF E (60) (ga)), ((fo (k)), .inr (2, [.int tg, .int f1, .int f2, .ref bq, .int sz, .int su])), (bq, aB E (cp) (ff))] ++ zz E fo fd (R60.erase (k))) _ _ _ _ _
        have hbl := bdy_le (fT fl k) (fB fl k)
        have hcl := c31_le (bdy (fT fl k) (fB fl k))
        refine g_callV C r mv_X3_182 dX3_heldBytes_19 (c_X0_heldBytes g.l E (fo (k)) bq tg f1 f2 sz su (by omega) (by omega)) (wr := ([(x, .inr (5, [z0, z1, z2, .ref fa, z4, z5, .int pr, .int fc])), (fa, aF E (60) (ga)), (bq, aB E (cp) (ff))] ++ zz E fo fd (R60.erase (k)))) (As := []) (rest := [.int n1]) (Spl.atZ [0, 1, 3] [2] rfl rfl rfl) 0 rfl rfl rfl rfl (Nat.le_of_ble_eq_true rfl) (by decide) (Nat.le_refl _) (Nat.le_refl _) (fun v w h => ?_)
        obtain ⟨x19, rfl, e19, rfl⟩ := h
        refine g_tail ?_
        change G E g ([(x, .inr (5, [z0, z1, z2, .ref fa, z4, z5, .int pr, .int fc])), (fa, aF E (60) (ga)), (bq, aB E (cp) (ff)), ((fo (k)), .inr (2, [.int tg, .int f1, .int f2, .ref bq, .int sz, .int su]))] ++ zz E fo fd (R60.erase (k))) _ _ _ _ [.int x19, .int n1]
        have hh : x19.toInt = (hld fl k : Int) := xh_1 hF (by omega) qT qL qS e19
        have hhl := hld_le hF (i := k) (by omega)
        refine g_permZ [0, 1, 3, 2] rfl (ws' := [(x, .inr (5, [z0, z1, z2, .ref fa, z4, z5, .int pr, .int fc])), (fa, aF E (60) (ga)), ((fo (k)), .inr (2, [.int tg, .int f1, .int f2, .ref bq, .int sz, .int su])), (bq, aB E (cp) (ff))]) rfl rfl ?_
        refine g_unfocus0 (X := [(x, .inr (5, [z0, z1, z2, .ref fa, z4, z5, .int pr, .int fc])), (fa, aF E (60) (ga))]) (k) (by omega) hfd ?_
        change G E g ([(x, .inr (5, [z0, z1, z2, .ref fa, z4, z5, .int pr, .int fc])), (fa, aF E (60) (ga))] ++ zz E fo fd R60) _ _ _ _ _
        refine g_iadd C dX3_heldBytes_22 (by omega) (fun x22 e22 => ?_)
        refine g_istore_n C dX3_heldBytes_23 (by rw [hN]; decide) (lv' := [(1, .int x22), (0, .ref x), (2, .int n2)]) rfl ?_
        refine g_iinc C dX3_heldBytes_24 2 rfl (by rw [hN]; decide) (by decide) (by omega) (fun x24 e24 => ?_)
        refine g_lvE (lv' := [(2, .int x24), (1, .int x22), (0, .ref x)]) rfl ?_
        refine g_goto C 4 dX3_heldBytes_27 (by decide) ?_
        refine g_lv [2, 1, 0] (lv' := [(0, .ref x), (1, .int x22), (2, .int x24)]) rfl ?_
        exact ih4 (x22) (x24) (k + 1) (by omega) (by omega) (by omega) (by simp only [tot]; omega)
  refine g_lv [2, 1, 0] (lv' := [(0, .ref x), (1, .int x0), (2, .int x2)]) rfl ?_
  exact loop4 _ (x0) (x2) (0) (Nat.lt_succ_self _) (by omega) (by omega) (by rw [e0]; rfl)
set_option maxHeartbeats 1000000 in
set_option maxRecDepth 10000 in
theorem c_X3_hasMarkAsIndicator (l : Launch) (E : GE) (x fa : Nat) (ga : Nat → Option Nat) (fo : Nat → Nat) (fd : Nat → FV) (fl : FL) (pr fc : Int32) (z0 z1 z2 z4 z5 : Value) (hX : XPr pr fc fd fl) (hF : FW fl) (hga : ∀ j, j < 60 → ga j = some (fo j)) : Ctr l E yX3_hasMarkAsIndicator cX3_hasMarkAsIndicator 3 (some .boolean) 1 (0) (0) [.ref x] ([(x, .inr (5, [z0, z1, z2, .ref fa, z4, z5, .int pr, .int fc])), (fa, aF E (60) (ga))] ++ zz E fo fd R60) (oI (fun r => (r.toInt = 1 ∧ cn fl fl.length = false) ∨ (r.toInt = 0 ∧ cn fl fl.length = true)) ([(x, .inr (5, [z0, z1, z2, .ref fa, z4, z5, .int pr, .int fc])), (fa, aF E (60) (ga))] ++ zz E fo fd R60)) := by
  refine Ctr.intro (by decide) (Nat.le_of_ble_eq_true rfl) (fun g hgl hN C r F hi => ?_)
  subst hgl
  have hfl := hF.1
  obtain ⟨hpr, hfc, hXF, hFG⟩ := hX
  change G E g ([(x, .inr (5, [z0, z1, z2, .ref fa, z4, z5, .int pr, .int fc])), (fa, aF E (60) (ga))] ++ zz E fo fd R60) 0 0 0 [(0, .ref x)] []
  refine g_iconst C dX3_hasMarkAsIndicator_0 (by decide) (fun x0 e0 => ?_)
  refine g_istore_n C dX3_hasMarkAsIndicator_1 (by rw [hN]; decide) (lv' := [(1, .int x0), (0, .ref x)]) rfl ?_
  have loop2 : ∀ (nn : Nat) (n1 : Int32) (k : Nat) (hm : fl.length - k < nn) (hk : k ≤ fl.length) (hp : n1.toInt = (k : Int)) (hs : cn fl k = true), G E g ([(x, .inr (5, [z0, z1, z2, .ref fa, z4, z5, .int pr, .int fc])), (fa, aF E (60) (ga))] ++ zz E fo fd R60) 0 0 2 [(0, .ref x), (1, .int n1)] [] := by
    intro nn
    induction nn with
    | zero => intro n1 k hm hk hp hs; omega
    | succ nn ih2 =>
      intro n1 k hm hk hp hs
      refine g_iload_n C dX3_hasMarkAsIndicator_2 1 rfl ?_
      refine g_aload_n C dX3_hasMarkAsIndicator_3 0 rfl ?_
      refine gf_X3_46 C 0 rfl rfl dX3_hasMarkAsIndicator_4 ?_
      refine g_icmp_ge C 55 dX3_hasMarkAsIndicator_7 (by decide) (fun c7 => ?_) (fun c7 => ?_)
      · refine g_iconst C dX3_hasMarkAsIndicator_55 (by decide) (fun x55 e55 => ?_)
        exact g_iret C F dX3_hasMarkAsIndicator_56 rfl (nz_b x55 (by omega)) (Nat.le_refl _) (Nat.le_refl _) (by refine ⟨_, rfl, Or.inr ⟨by omega, ?_⟩, rfl⟩; rw [← show k = fl.length by omega]; exact hs)
      · refine g_aload_n C dX3_hasMarkAsIndicator_10 0 rfl ?_
        refine gf_X3_29 C 0 rfl rfl dX3_hasMarkAsIndicator_11 ?_
        refine g_iload_n C dX3_hasMarkAsIndicator_14 1 rfl ?_
        refine g_aaload C 1 rfl dX3_hasMarkAsIndicator_15 (k) (by omega) (by omega) (r := (fo (k))) (hga _ (by omega)) ?_
        refine g_astore_n C dX3_hasMarkAsIndicator_16 (by rw [hN]; decide) (lv' := [(2, .ref (fo (k))), (0, .ref x), (1, .int n1)]) rfl ?_
        rcases hfd : fd (k) with ⟨tg, f1, f2, sz, su, bq, cp, ff⟩
        obtain ⟨qT, qL, qB, qS, qC, qI⟩ := XF_at hXF (i := k) (by omega) hfd
        obtain ⟨hW1, hW2, hW3, hW4, hW5⟩ := hF.2 (k) (by omega)
        obtain ⟨gB, gC, gD⟩ := FG_at hFG (i := k) (by omega) hfd
        refine g_focus (X := [(x, .inr (5, [z0, z1, z2, .ref fa, z4, z5, .int pr, .int fc])), (fa, aF E (60) (ga))]) (k) (by omega) hfd ?_
        change G E g ([(x, .inr (5, [z0, z1, z2, .ref fa, z4, z5, .int pr, .int fc])), (fa, aF E (60) (ga)), ((fo (k)), .inr (2, [.int tg, .int f1, .int f2, .ref bq, .int sz, .int su])), (bq, aB E (cp) (ff))] ++ zz E fo fd (R60.erase (k))) _ _ _ _ _
        have qI9 : 9 < fT fl k → f1.toInt = ((fB fl k).getD 0 0 : Int) := fun h => (qI h).1
        have qI8 : 9 < fT fl k → f2.toInt = ((fB fl k).getD 1 0 : Int) := fun h => (qI h).2
        refine g_aload_n C dX3_hasMarkAsIndicator_17 0 rfl ?_
        refine gf_X3_78 C 2 rfl rfl dX3_hasMarkAsIndicator_18 ?_
        refine g_callS C r ms_X3_85 dX3_hasMarkAsIndicator_21 (c_X3_isControl g.l E tg) (wr := ([(x, .inr (5, [z0, z1, z2, .ref fa, z4, z5, .int pr, .int fc])), (fa, aF E (60) (ga)), ((fo (k)), .inr (2, [.int tg, .int f1, .int f2, .ref bq, .int sz, .int su])), (bq, aB E (cp) (ff))] ++ zz E fo fd (R60.erase (k)))) (As := [.int tg]) (rest := []) (Spl.atZ [0, 1, 2, 3] [] rfl rfl rfl) rfl (Nat.le_of_ble_eq_true rfl) (by decide) (Nat.le_refl _) (Nat.le_refl _) (fun v w h => ?_)
        obtain ⟨x21, rfl, e21, rfl⟩ := h
        refine g_tail ?_
        change G E g ([(x, .inr (5, [z0, z1, z2, .ref fa, z4, z5, .int pr, .int fc])), (fa, aF E (60) (ga)), ((fo (k)), .inr (2, [.int tg, .int f1, .int f2, .ref bq, .int sz, .int su])), (bq, aB E (cp) (ff))] ++ zz E fo fd (R60.erase (k))) _ _ _ _ [.int x21]
        refine g_if_ne C 49 dX3_hasMarkAsIndicator_24 (by decide) (fun c24 => ?_) (fun c24 => ?_)
        · replace e21 := bl1 e21 c24
          refine g_unfocus0 (X := [(x, .inr (5, [z0, z1, z2, .ref fa, z4, z5, .int pr, .int fc])), (fa, aF E (60) (ga))]) (k) (by omega) hfd ?_
          change G E g ([(x, .inr (5, [z0, z1, z2, .ref fa, z4, z5, .int pr, .int fc])), (fa, aF E (60) (ga))] ++ zz E fo fd R60) _ _ _ _ _
          refine g_iinc C dX3_hasMarkAsIndicator_49 2 rfl (by rw [hN]; decide) (by decide) (by omega) (fun x49 e49 => ?_)
          refine g_lvE (lv' := [(1, .int x49), (2, .ref (fo (k))), (0, .ref x)]) rfl ?_
          refine g_goto C 2 dX3_hasMarkAsIndicator_52 (by decide) ?_
          refine g_lv [2, 0] (lv' := [(0, .ref x), (1, .int x49)]) rfl ?_
          exact ih2 (x49) (k + 1) (by omega) (by omega) (by omega) (by exact cn_t hs (by omega))
        · replace e21 := bl0 e21 c24
          refine g_aload_n C dX3_hasMarkAsIndicator_27 0 rfl ?_
          refine gf_X3_89 C 2 rfl rfl dX3_hasMarkAsIndicator_28 ?_
          refine g_callS C r ms_X3_124 dX3_hasMarkAsIndicator_31 (c_X3_isMark g.l E f1) (wr := ([(x, .inr (5, [z0, z1, z2, .ref fa, z4, z5, .int pr, .int fc])), (fa, aF E (60) (ga)), ((fo (k)), .inr (2, [.int tg, .int f1, .int f2, .ref bq, .int sz, .int su])), (bq, aB E (cp) (ff))] ++ zz E fo fd (R60.erase (k)))) (As := [.int f1]) (rest := []) (Spl.atZ [0, 1, 2, 3] [] rfl rfl rfl) rfl (Nat.le_of_ble_eq_true rfl) (by decide) (Nat.le_refl _) (Nat.le_refl _) (fun v w h => ?_)
          obtain ⟨x31, rfl, e31, rfl⟩ := h
          refine g_tail ?_
          change G E g ([(x, .inr (5, [z0, z1, z2, .ref fa, z4, z5, .int pr, .int fc])), (fa, aF E (60) (ga)), ((fo (k)), .inr (2, [.int tg, .int f1, .int f2, .ref bq, .int sz, .int su])), (bq, aB E (cp) (ff))] ++ zz E fo fd (R60.erase (k))) _ _ _ _ [.int x31]
          refine g_if_ne C 47 dX3_hasMarkAsIndicator_34 (by decide) (fun c34 => ?_) (fun c34 => ?_)
          · replace e31 := bl1 e31 c34
            refine g_unfocus0 (X := [(x, .inr (5, [z0, z1, z2, .ref fa, z4, z5, .int pr, .int fc])), (fa, aF E (60) (ga))]) (k) (by omega) hfd ?_
            change G E g ([(x, .inr (5, [z0, z1, z2, .ref fa, z4, z5, .int pr, .int fc])), (fa, aF E (60) (ga))] ++ zz E fo fd R60) _ _ _ _ _
            refine g_iconst C dX3_hasMarkAsIndicator_47 (by decide) (fun x47 e47 => ?_)
            exact g_iret C F dX3_hasMarkAsIndicator_48 rfl (nz_b x47 (by omega)) (Nat.le_refl _) (Nat.le_refl _) (by refine ⟨_, rfl, Or.inl ⟨by omega, ?_⟩, rfl⟩; exact cn_fl (m := k + 1) (by omega) (cn_f (Or.inr ⟨by omega, by omega⟩)))
          · replace e31 := bl0 e31 c34
            refine g_aload_n C dX3_hasMarkAsIndicator_37 0 rfl ?_
            refine gf_X3_92 C 2 rfl rfl dX3_hasMarkAsIndicator_38 ?_
            refine g_callS C r ms_X3_124 dX3_hasMarkAsIndicator_41 (c_X3_isMark g.l E f2) (wr := ([(x, .inr (5, [z0, z1, z2, .ref fa, z4, z5, .int pr, .int fc])), (fa, aF E (60) (ga)), ((fo (k)), .inr (2, [.int tg, .int f1, .int f2, .ref bq, .int sz, .int su])), (bq, aB E (cp) (ff))] ++ zz E fo fd (R60.erase (k)))) (As := [.int f2]) (rest := []) (Spl.atZ [0, 1, 2, 3] [] rfl rfl rfl) rfl (Nat.le_of_ble_eq_true rfl) (by decide) (Nat.le_refl _) (Nat.le_refl _) (fun v w h => ?_)
            obtain ⟨x41, rfl, e41, rfl⟩ := h
            refine g_tail ?_
            change G E g ([(x, .inr (5, [z0, z1, z2, .ref fa, z4, z5, .int pr, .int fc])), (fa, aF E (60) (ga)), ((fo (k)), .inr (2, [.int tg, .int f1, .int f2, .ref bq, .int sz, .int su])), (bq, aB E (cp) (ff))] ++ zz E fo fd (R60.erase (k))) _ _ _ _ [.int x41]
            refine g_if_eq C 49 dX3_hasMarkAsIndicator_44 (by decide) (fun c44 => ?_) (fun c44 => ?_)
            · replace e41 := bl0 e41 c44
              refine g_unfocus0 (X := [(x, .inr (5, [z0, z1, z2, .ref fa, z4, z5, .int pr, .int fc])), (fa, aF E (60) (ga))]) (k) (by omega) hfd ?_
              change G E g ([(x, .inr (5, [z0, z1, z2, .ref fa, z4, z5, .int pr, .int fc])), (fa, aF E (60) (ga))] ++ zz E fo fd R60) _ _ _ _ _
              refine g_iinc C dX3_hasMarkAsIndicator_49 2 rfl (by rw [hN]; decide) (by decide) (by omega) (fun x49 e49 => ?_)
              refine g_lvE (lv' := [(1, .int x49), (2, .ref (fo (k))), (0, .ref x)]) rfl ?_
              refine g_goto C 2 dX3_hasMarkAsIndicator_52 (by decide) ?_
              refine g_lv [2, 0] (lv' := [(0, .ref x), (1, .int x49)]) rfl ?_
              exact ih2 (x49) (k + 1) (by omega) (by omega) (by omega) (by exact cn_t hs (by omega))
            · replace e41 := bl1 e41 c44
              refine g_unfocus0 (X := [(x, .inr (5, [z0, z1, z2, .ref fa, z4, z5, .int pr, .int fc])), (fa, aF E (60) (ga))]) (k) (by omega) hfd ?_
              change G E g ([(x, .inr (5, [z0, z1, z2, .ref fa, z4, z5, .int pr, .int fc])), (fa, aF E (60) (ga))] ++ zz E fo fd R60) _ _ _ _ _
              refine g_iconst C dX3_hasMarkAsIndicator_47 (by decide) (fun x47 e47 => ?_)
              exact g_iret C F dX3_hasMarkAsIndicator_48 rfl (nz_b x47 (by omega)) (Nat.le_refl _) (Nat.le_refl _) (by refine ⟨_, rfl, Or.inl ⟨by omega, ?_⟩, rfl⟩; exact cn_fl (m := k + 1) (by omega) (cn_f (Or.inr ⟨by omega, by omega⟩)))
  refine g_lv [1, 0] (lv' := [(0, .ref x), (1, .int x0)]) rfl ?_
  exact loop2 _ (x0) (0) (Nat.lt_succ_self _) (by omega) (by omega) (by rfl)
