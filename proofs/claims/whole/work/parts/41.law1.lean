/-! one call of the law, on both sides -/
theorem XPr.pr {pr fc : Int32} {fd : Nat → FV} {fl : FL} (h : XPr pr fc fd fl) : pr.toInt = 0 ∨ pr.toInt = 1 := by
  rcases h.1 with q | q
  · exact Or.inr q
  · exact Or.inl q.1
theorem law_ad {k S P : Nat} {f f1 f2 : Nat → Int32} {sz pl msz mpl s1 s2 y : Int32} (h : IA k S P f sz pl msz mpl)
    (h1 : (S < 1500 ∧ s1.toInt = ((S + 1 : Nat) : Int) ∧ f1 = upd f S (sB (u8 y))) ∨ (¬ S < 1500 ∧ s1 = sz ∧ f1 = f)) (h2 : (S < 1500 ∧ s2.toInt = ((S + 1 : Nat) : Int) ∧ f2 = upd f S (sB (u8 y))) ∨ (¬ S < 1500 ∧ s2 = msz ∧ f2 = f)) :
    ∃ S2 : Nat, s1.toInt = (S2 : Int) ∧ s2.toInt = (S2 : Int) ∧ f1 = f2 ∧ (S ≤ S2 ∧ S2 ≤ S + 1) ∧ S2 ≤ 1500 ∧ BF f1 := by
  obtain ⟨hS, hmS, hP, hmP, hPS, hSk, hSm, hBF⟩ := h
  rcases h1 with ⟨a, b, c⟩ | ⟨a, b, c⟩
  · rcases h2 with ⟨_, b2, c2⟩ | ⟨q, _⟩
    · exact ⟨S + 1, b, b2, c.trans c2.symm, by omega, by omega, by rw [c]; exact BF_upd hBF _ _⟩
    · exact absurd a q
  · rcases h2 with ⟨q, _⟩ | ⟨_, b2, c2⟩
    · exact absurd q a
    · exact ⟨S, by rw [b]; exact hS, by rw [b2]; exact hmS, c.trans c2.symm, by omega, by omega, by rw [c]; exact hBF⟩
theorem law_rd {k S P R : Nat} {b0 : Nat → Nat} {fl : FL} {f lf rf mlf tf sf yf mrf lf1 rf1 lf2 tf2 sf2 yf2 rf2 : Nat → Int32} {fd fd1 : Nat → FV} {sz pl msz mpl rc pr fc te nf mrc rc1 pr1 fc1 te2 nf2 rc2 : Int32} (hA : IA k S P f sz pl msz mpl) (hB : IB k fl pr fc fd te nf tf sf yf lf mlf) (hC : IC R b0 rc mrc rf mrf)
    (h1 : (rdK (lk f P) S P = 0 ∧ pr1 = pr ∧ fc1 = fc ∧ rc1 = rc ∧ lf1 = lf ∧ rf1 = rf ∧ fd1 = fd) ∨ (rdK (lk f P) S P = 1 ∧ pr1.toInt = 0 ∧ fc1.toInt = 0 ∧ rc1 = rc ∧ lf1 = lf ∧ rf1 = rf ∧ fd1 = fd) ∨ (rdK (lk f P) S P = 2 ∧ pr1.toInt = 1 ∧ fc1.toInt = (rCnt (lk f P) : Int) ∧ rc1.toInt = (rCnt (lk f P) : Int) ∧ (∀ j, j < 24 → lf1 j = f (P + j)) ∧ XF fd1 (rdF (lk f P) (rCnt (lk f P))) ∧ FG fd1 ∧ RW (lk f P) rf1 (rCnt (lk f P))))
    (h2 : (rdK (lk f P) S P = 0 ∧ te2 = te ∧ nf2 = nf ∧ rc2 = mrc ∧ lf2 = mlf ∧ tf2 = tf ∧ sf2 = sf ∧ yf2 = yf ∧ rf2 = mrf) ∨ (rdK (lk f P) S P = 1 ∧ te2.toInt = 0 ∧ nf2 = nf ∧ rc2 = mrc ∧ rf2 = mrf) ∨ (rdK (lk f P) S P = 2 ∧ wRec (lk f P) (rdA (lk f P)) = -1 ∧ 26 ≤ rdA (lk f P) ∧ P + rdA (lk f P) ≤ S ∧ te2.toInt = 1 ∧ nf2.toInt = (rCnt (lk f P) : Int) ∧ rc2.toInt = (rCnt (lk f P) : Int) ∧ (∀ j, j < 24 → lf2 j = f (P + j)) ∧ MF tf2 sf2 yf2 (rdF (lk f P) (rCnt (lk f P))) ∧ RW (lk f P) rf2 (rCnt (lk f P)))) :
    ∃ (fl2 : FL) (R2 : Nat) (b2 : Nat → Nat), IB (k + 1) fl2 pr1 fc1 fd1 te2 nf2 tf2 sf2 yf2 lf1 lf2 ∧ IC R2 b2 rc1 rc2 rf1 rf2 := by
  obtain ⟨hS, hmS, hP, hmP, hPS, hSk, hSm, hBF⟩ := hA
  have hnf := hB.2.1.nf hB.2.2.2.1
  rcases h1 with ⟨q, r1, r2, r3, r4, r5, r6⟩ | ⟨q, r1, r2, r3, r4, r5, r6⟩ | ⟨q, r1, r2, r3, r4, r5, r6, r7⟩
  · rcases h2 with ⟨_, s1, s2, s3, s4, s5, s6, s7, s8⟩ | ⟨z, _⟩ | ⟨z, _⟩
    · subst r1; subst r2; subst r3; subst r4; subst r5; subst r6; subst s1; subst s2; subst s3; subst s4; subst s5; subst s6; subst s7; subst s8
      exact ⟨fl, R, b0, hB.up, hC⟩
    · omega
    · omega
  · rcases h2 with ⟨z, _⟩ | ⟨_, s1, s2, s3, s4⟩ | ⟨z, _⟩
    · omega
    · subst r3; subst r5; subst r6; subst s2; subst s3; subst s4
      exact ⟨[], R, b0, IB.no r1 r2 hB.1.2.2.2 s1 hnf, hC⟩
    · omega
  · rcases h2 with ⟨z, _⟩ | ⟨z, _⟩ | ⟨_, s1, s2, s3, s4, s5, s6, s7, s8, s9⟩
    · omega
    · omega
    · obtain ⟨w1, w2, w3⟩ := FW_rd (lk_lt f P) s2 (by omega) s1
      refine ⟨rdF (lk f P) (rCnt (lk f P)), rCnt (lk f P), lk f P, ⟨⟨Or.inl r1, by rw [rdF_len]; exact r2, r5, r6⟩, Or.inl ⟨s4, by rw [rdF_len]; exact s5, s8⟩, by rw [r1, s4], w1, w2.mono (by omega), fun _ j hj => by rw [r4 j hj, s7 j hj]⟩, ⟨r3, s6, w3, r7, s9⟩⟩
theorem law_dir {b0 : Nat → Nat} {R : Nat} {rf mrf : Nat → Int32} {y t q1 q2 : Int32} (h1 : RW b0 rf R) (h2 : RW b0 mrf R) (hin : 0 ≤ y.toInt ∧ y.toInt < (R : Int)) (e1 : (0 ≤ t.toInt ∧ t.toInt ≤ 2 ∧ q1 = rf (3 * y.toInt.toNat + t.toInt.toNat)) ∨ (¬ (0 ≤ t.toInt ∧ t.toInt ≤ 2) ∧ q1.toInt = -1)) (e2 : (0 ≤ t.toInt ∧ t.toInt ≤ 2 ∧ q2 = mrf (3 * y.toInt.toNat + t.toInt.toNat)) ∨ (¬ (0 ≤ t.toInt ∧ t.toInt ≤ 2) ∧ q2.toInt = -1)) : q1 = q2 := by
  rcases e1 with ⟨a, b, c⟩ | ⟨a, c⟩
  · rcases e2 with ⟨_, _, c2⟩ | ⟨a2, _⟩
    · rw [c, c2]; exact RW_eq h1 h2 (by omega) (by omega)
    · exact absurd ⟨a, b⟩ a2
  · rcases e2 with ⟨a2, b2, _⟩ | ⟨_, c2⟩
    · exact absurd ⟨a2, b2⟩ a
    · exact ti_inj (by rw [c, c2])
theorem upd_cg {f1 f2 : Nat → Int32} {k : Nat} {v : Int32} {n : Nat} (h : ∀ j, j < n → f1 j = f2 j) : ∀ j, j < n → upd f1 k v j = upd f2 k v j := by
  intro j hj
  by_cases e : j = k
  · subst e; rw [upd_s, upd_s]
  · rw [upd_n e, upd_n e]; exact h j hj
theorem law_ld {k : Nat} {fl : FL} {pr fc te nf pr1 fc1 te1 nf1 y t r1 r2 : Int32} {fd : Nat → FV} {tf sf yf lf mlf lf1 lf2 : Nat → Int32} (hB : IB k fl pr fc fd te nf tf sf yf lf mlf)
    (h1 : ((((5 ≤ y.toInt ∧ y.toInt ≤ 9) ∨ (17 ≤ y.toInt ∧ y.toInt ≤ 19) ∨ y.toInt = 22 ∨ y.toInt = 23) ∧ r1.toInt = 1 ∧ pr1.toInt = 1 ∧ ((pr.toInt ≠ 0 ∧ fc1 = fc ∧ lf1 = upd lf y.toInt.toNat (sB (u8 t))) ∨ (pr.toInt = 0 ∧ fc1.toInt = 0 ∧ lf1 = upd (fun j => if j < 24 then sB 32 else lf j) y.toInt.toNat (sB (u8 t))))) ∨ (¬ ((5 ≤ y.toInt ∧ y.toInt ≤ 9) ∨ (17 ≤ y.toInt ∧ y.toInt ≤ 19) ∨ y.toInt = 22 ∨ y.toInt = 23) ∧ r1.toInt = 0 ∧ pr1 = pr ∧ fc1 = fc ∧ lf1 = lf)))
    (h2 : ((((5 ≤ y.toInt ∧ y.toInt ≤ 9) ∨ (17 ≤ y.toInt ∧ y.toInt ≤ 19) ∨ y.toInt = 22 ∨ y.toInt = 23) ∧ r2.toInt = 1 ∧ te1.toInt = 1 ∧ ((te.toInt ≠ 0 ∧ nf1 = nf ∧ lf2 = upd mlf y.toInt.toNat (sB (u8 t))) ∨ (te.toInt = 0 ∧ nf1.toInt = 0 ∧ lf2 = upd (fun j => if j < 24 then sB 32 else mlf j) y.toInt.toNat (sB (u8 t))))) ∨ (¬ ((5 ≤ y.toInt ∧ y.toInt ≤ 9) ∨ (17 ≤ y.toInt ∧ y.toInt ≤ 19) ∨ y.toInt = 22 ∨ y.toInt = 23) ∧ r2.toInt = 0 ∧ te1 = te ∧ nf1 = nf ∧ lf2 = mlf))) :
    r1.toInt = r2.toInt ∧ IB (k + 1) fl pr1 fc1 fd te1 nf1 tf sf yf lf1 lf2 := by
  rcases h1 with ⟨a, a1, a2, a3⟩ | ⟨a, a1, a2, a3, a4⟩
  · rcases h2 with ⟨_, b1, b2, b3⟩ | ⟨b, _⟩
    · refine ⟨by rw [a1, b1], ?_⟩
      obtain ⟨hXP, hMP, hpt, hFW, hLN, hlf⟩ := hB.up
      rcases a3 with ⟨c1, c2, c3⟩ | ⟨c1, c2, c3⟩
      · rcases b3 with ⟨d1, d2, d3⟩ | ⟨d1, d2, d3⟩
        · obtain ⟨m1, m2⟩ := hMP.in d1
          have hp1 : pr.toInt = 1 := by rcases hXP.pr with q | q <;> omega
          refine ⟨⟨Or.inl a2, by rw [c2]; exact hXP.2.1, hXP.2.2.1, hXP.2.2.2⟩, Or.inl ⟨b2, by rw [d2]; exact m1, m2⟩, by rw [a2, b2], hFW, hLN, fun _ => ?_⟩
          rw [c3, d3]
          exact upd_cg (hlf hp1)
        · exact absurd (hpt.trans d1) c1
      · rcases b3 with ⟨d1, d2, d3⟩ | ⟨d1, d2, d3⟩
        · exact absurd (hpt.symm.trans c1) d1
        · have hz : fl = [] := by
            rcases hXP.1 with q | q
            · omega
            · exact q.2
          subst hz
          refine ⟨⟨Or.inl a2, c2, hXP.2.2.1, hXP.2.2.2⟩, Or.inl ⟨b2, d2, fun i hi => by simp at hi⟩, by rw [a2, b2], FW_nil, LN_nil _, fun _ => ?_⟩
          rw [c3, d3]
          exact upd_cg (fun j hj => by simp only [if_pos hj])
    · exact absurd a b
  · rcases h2 with ⟨b, _⟩ | ⟨_, b1, b2, b3, b4⟩
    · exact absurd b a
    · subst a2; subst a3; subst a4; subst b2; subst b3; subst b4
      exact ⟨by rw [a1, b1], hB.up⟩
theorem law_pt {k : Nat} {fl : FL} {pr fc te nf fc1 nf1 y t r1 r2 : Int32} {fd fd1 : Nat → FV} {tf sf yf tf1 sf1 yf1 lf mlf : Nat → Int32} (hB : IB k fl pr fc fd te nf tf sf yf lf mlf)
    (h1 : ((pr.toInt ≠ 0 ∧ 0 ≤ y.toInt ∧ y.toInt ≤ 999 ∧ fl.length < 60) ∧ r1.toInt = ((fl.length + 1 : Nat) : Int) ∧ XPr pr fc1 fd1 (putF fl y.toInt.toNat (u8 (sh8 t)) (u8 t))) ∨ (¬ (pr.toInt ≠ 0 ∧ 0 ≤ y.toInt ∧ y.toInt ≤ 999 ∧ fl.length < 60) ∧ r1.toInt = 0 ∧ XPr pr fc1 fd1 fl))
    (h2 : ((te.toInt ≠ 0 ∧ 0 ≤ y.toInt ∧ y.toInt ≤ 999 ∧ fl.length < 60) ∧ r2.toInt = ((fl.length + 1 : Nat) : Int) ∧ MPr te nf1 tf1 sf1 yf1 (putF fl y.toInt.toNat (u8 (sh8 t)) (u8 t))) ∨ (¬ (te.toInt ≠ 0 ∧ 0 ≤ y.toInt ∧ y.toInt ≤ 999 ∧ fl.length < 60) ∧ r2.toInt = 0 ∧ MPr te nf1 tf1 sf1 yf1 fl)) :
    r1.toInt = r2.toInt ∧ ∃ fl2 : FL, IB (k + 1) fl2 pr fc1 fd1 te nf1 tf1 sf1 yf1 lf mlf := by
  obtain ⟨hXP, hMP, hpt, hFW, hLN, hlf⟩ := hB
  rw [← hpt] at h2
  rcases h1 with ⟨a, a1, a2⟩ | ⟨a, a1, a2⟩
  · rcases h2 with ⟨_, b1, b2⟩ | ⟨b, _⟩
    · exact ⟨by rw [a1, b1], _, a2, b2, hpt, FW_put hFW a.2.2.2 (by omega) (u8_lt _) (u8_lt _), LN_put (hLN.mono (by omega)) (by omega), hlf⟩
    · exact absurd a b
  · rcases h2 with ⟨b, _⟩ | ⟨_, b1, b2⟩
    · exact absurd b a
    · exact ⟨by rw [a1, b1], _, a2, b2, hpt, hFW, hLN.mono (by omega), hlf⟩
theorem wrC_in {pr : Int32} {fl : FL} {cap : Nat} (hF : FW fl) (hc : cap ≤ 220000) : cap ≤ wrC pr fl cap ∧ wrC pr fl cap ≤ 220000 := by
  have h := alls_le hF
  obtain ⟨_, o2, o3, _⟩ := ocap_le (cap := cap) (t := alls fl)
  unfold wrC
  split
  · exact ⟨o2, o3 hc h⟩
  · exact ⟨Nat.le_refl _, hc⟩
theorem law_wr {k : Nat} {fl : FL} {o : List Nat} {cap : Nat} {pr fc te nf os wz os1 wz1 r1 r2 : Int32} {q1 ob : Nat} {fd : Nat → FV} {tf sf yf lf mlf of wf of1 wf1 : Nat → Int32} (hB : IB k fl pr fc fd te nf tf sf yf lf mlf) (hD : ID o cap os wz of wf)
    (h1 : ((pr.toInt ≠ 0 ∧ cn fl fl.length = true) ∧ r1.toInt = ((frm lf fl).length : Int) ∧ os1.toInt = ((frm lf fl).length : Int) ∧ Bs of1 0 (frm lf fl)) ∨ (¬ (pr.toInt ≠ 0 ∧ cn fl fl.length = true) ∧ r1.toInt = -1 ∧ q1 = ob ∧ os1 = os ∧ of1 = of))
    (h2 : ((te.toInt ≠ 0 ∧ cn fl fl.length = true) ∧ r2.toInt = ((frm mlf fl).length : Int) ∧ wz1.toInt = ((frm mlf fl).length : Int) ∧ Bs wf1 0 (frm mlf fl)) ∨ (¬ (te.toInt ≠ 0 ∧ cn fl fl.length = true) ∧ r2.toInt = -1 ∧ wz1 = wz ∧ wf1 = wf)) :
    r1.toInt = r2.toInt ∧ ∃ o2 : List Nat, ID o2 (wrC pr fl cap) os1 wz1 of1 wf1 := by
  obtain ⟨hXP, hMP, hpt, hFW, hLN, hlf⟩ := hB
  rw [← hpt] at h2
  rcases h1 with ⟨a, a1, a2, a3⟩ | ⟨a, a1, a2, a3, a4⟩
  · rcases h2 with ⟨_, b1, b2, b3⟩ | ⟨b, _⟩
    · have hp1 : pr.toInt = 1 := by rcases hXP.pr with q | q <;> omega
      have e := frm_cg (hlf hp1) fl
      rw [← e] at b1 b2 b3
      obtain ⟨o1, o2, o3, o4, o5, o6, o7, o8⟩ := hD
      have hal := alls_le hFW
      have hwc := wrC_in (pr := pr) hFW o8
      have hoc := (ocap_le (cap := cap) (t := alls fl)).1
      have hw : wrC pr fl cap = ocap cap (alls fl) := by unfold wrC; rw [if_pos a]
      have hfl := frm_len lf fl
      exact ⟨by rw [a1, b1], frm lf fl, a2, b2, a3, b3, by omega, by omega, by omega, by omega⟩
    · exact absurd a b
  · rcases h2 with ⟨b, _⟩ | ⟨_, b1, b2, b3⟩
    · exact absurd b a
    · have hw : wrC pr fl cap = cap := by unfold wrC; rw [if_neg a]
      subst a3; subst a4; subst b2; subst b3
      rw [hw]
      exact ⟨by rw [a1, b1], o, hD⟩
