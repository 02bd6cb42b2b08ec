theorem XF_at {fd : Nat → FV} {fl : FL} (h : XF fd fl) {i : Nat} (hi : i < fl.length) {tg f1 f2 sz su : Int32} {bq cp : Nat} {ff : Nat → Int32} (e : fd i = (tg, f1, f2, sz, su, bq, cp, ff)) : tg.toInt = (fT fl i : Int) ∧ sz.toInt = ((bdy (fT fl i) (fB fl i)).length : Int) ∧ Bs ff 0 (bdy (fT fl i) (fB fl i)) ∧ su.toInt = (c31 (bdy (fT fl i) (fB fl i)) : Int) ∧ (bdy (fT fl i) (fB fl i)).length ≤ cp ∧ (9 < fT fl i → f1.toInt = ((fB fl i).getD 0 0 : Int) ∧ f2.toInt = ((fB fl i).getD 1 0 : Int)) := by
  have := h i hi
  unfold FR at this
  rw [e] at this
  exact this
theorem FG_at {fd : Nat → FV} (h : FG fd) {i : Nat} (hi : i < 60) {tg f1 f2 sz su : Int32} {bq cp : Nat} {ff : Nat → Int32} (e : fd i = (tg, f1, f2, sz, su, bq, cp, ff)) : BF ff ∧ 16 ≤ cp ∧ cp ≤ 4000 := by
  have := h i hi
  rw [e] at this
  exact this
theorem bdy_c {t : Nat} {bd : List Nat} (h : t ≤ 9) : bdy t bd = bd := by unfold bdy; rw [if_pos h]
theorem bdy_o {t : Nat} {bd : List Nat} (h : 9 < t) : bdy t bd = bd.drop 2 := by unfold bdy; rw [if_neg (by omega)]
theorem bdy_8 {t : Nat} {bd : List Nat} (h : B8 bd) : B8 (bdy t bd) := by
  unfold bdy; split
  · exact h
  · exact fun x hx => h x (List.mem_of_mem_drop hx)
theorem bdy_le (t : Nat) (bd : List Nat) : (bdy t bd).length ≤ bd.length := by
  unfold bdy; split
  · exact Nat.le_refl _
  · simp
/-- the class's present record -/
def XPr (pr fc : Int32) (fd : Nat → FV) (fl : FL) : Prop := (pr.toInt = 1 ∨ (pr.toInt = 0 ∧ fl = [])) ∧ fc.toInt = (fl.length : Int) ∧ XF fd fl ∧ FG fd
theorem hld_c {fl : FL} (hF : FW fl) {k : Nat} (hk : k < fl.length) (h : fT fl k ≤ 9) : (hld fl k : Int) = ((fB fl k).length : Int) - (c31 (fB fl k) : Int) := by
  have := (hF.2 k hk).2.2.2.2 h
  unfold hld; rw [if_pos h, this]; omega
theorem hld_o {fl : FL} {k : Nat} (h : 9 < fT fl k) (h2 : 2 ≤ (fB fl k).length) : (hld fl k : Int) = 2 + (((fB fl k).drop 2).length : Int) - (c31 ((fB fl k).drop 2) : Int) := by
  have := c31_le ((fB fl k).drop 2)
  simp only [List.length_drop] at this ⊢
  unfold hld; rw [if_neg (by omega)]; omega
theorem cn_fl {fl : FL} : ∀ {m n : Nat}, m ≤ n → cn fl m = false → cn fl n = false
  | m, 0, h, hc => by have : m = 0 := by omega
                      subst this; exact hc
  | m, n + 1, h, hc => by
    by_cases e : m = n + 1
    · subst e; exact hc
    · exact cn_f (Or.inl (cn_fl (by omega) hc))
theorem xh_1 {fl : FL} (hF : FW fl) {k : Nat} (hk : k < fl.length) {tg sz su r : Int32} (qT : tg.toInt = (fT fl k : Int)) (qL : sz.toInt = ((bdy (fT fl k) (fB fl k)).length : Int)) (qS : su.toInt = (c31 (bdy (fT fl k) (fB fl k)) : Int)) (e : (tg.toInt ≤ 9 ∧ r.toInt = sz.toInt - su.toInt) ∨ (9 < tg.toInt ∧ r.toInt = 2 + sz.toInt - su.toInt)) : r.toInt = (hld fl k : Int) := by
  by_cases h : fT fl k ≤ 9
  · rw [hld_c hF hk h]
    rw [bdy_c h] at qL qS
    omega
  · rw [hld_o (by omega) ((hF.2 k hk).2.2.2.1 (by omega)).1]
    rw [bdy_o (by omega)] at qL qS
    omega
theorem xsf_c {fl : FL} {x i code k : Int} {r : Int32} (h : 0 < x ∧ x ≤ (fl.length : Int)) (h9 : fT fl (x.toNat - 1) ≤ 9) (e : r.toInt = gI (bdy (fT fl (x.toNat - 1)) (fB fl (x.toNat - 1))) k) : r.toInt = sfS fl x i code k := by
  by_cases hk : k < 0
  · rw [sfS_0 (Or.inr hk), e, gI_out (by omega)]
  · rw [sfS_1 (by omega) h9, e, bdy_c h9]
theorem xsf_no {fl : FL} {x i code k : Int} (h : 0 < x ∧ x ≤ (fl.length : Int)) (h9 : 9 < fT fl (x.toNat - 1)) (e : sIx (bdy (fT fl (x.toNat - 1)) (fB fl (x.toNat - 1))) code i ((bdy (fT fl (x.toNat - 1)) (fB fl (x.toNat - 1))).length - 1) 0 0 = -1) : sfS fl x i code k = -1 := by
  by_cases hk : k < 0
  · exact sfS_0 (Or.inr hk)
  · rw [sfS_2 (by omega) h9]
    rw [bdy_o h9] at e
    exact sfB_no e
theorem xsf_out {fl : FL} {x i code k : Int} {st : Nat} {r : Int32} (h : 0 < x ∧ x ≤ (fl.length : Int)) (h9 : 9 < fT fl (x.toNat - 1)) (hk : 0 ≤ k) (e : sIx (bdy (fT fl (x.toNat - 1)) (fB fl (x.toNat - 1))) code i ((bdy (fT fl (x.toNat - 1)) (fB fl (x.toNat - 1))).length - 1) 0 0 = (st : Int)) (e2 : r.toInt = (sEn (bdy (fT fl (x.toNat - 1)) (fB fl (x.toNat - 1))) ((bdy (fT fl (x.toNat - 1)) (fB fl (x.toNat - 1))).length - st) st : Int)) (h3 : r.toInt - (st : Int) ≤ k) : sfS fl x i code k = -1 := by
  rw [sfS_2 (by omega) h9]
  rw [bdy_o h9] at e e2
  unfold sfB
  rw [e, Int.toNat_natCast, ← e2, if_pos (Or.inr h3)]
theorem xsf_in {fl : FL} {x i code k : Int} {st : Nat} {r : Int32} (h : 0 < x ∧ x ≤ (fl.length : Int)) (h9 : 9 < fT fl (x.toNat - 1)) (hk : 0 ≤ k) (e : sIx (bdy (fT fl (x.toNat - 1)) (fB fl (x.toNat - 1))) code i ((bdy (fT fl (x.toNat - 1)) (fB fl (x.toNat - 1))).length - 1) 0 0 = (st : Int)) (e2 : r.toInt = (sEn (bdy (fT fl (x.toNat - 1)) (fB fl (x.toNat - 1))) ((bdy (fT fl (x.toNat - 1)) (fB fl (x.toNat - 1))).length - st) st : Int)) (h3 : k < r.toInt - (st : Int)) : sfS fl x i code k = gI (bdy (fT fl (x.toNat - 1)) (fB fl (x.toNat - 1))) ((st : Int) + k) := by
  rw [sfS_2 (by omega) h9]
  rw [bdy_o h9] at e e2 ⊢
  unfold sfB
  rw [e, Int.toNat_natCast, ← e2, if_neg (by omega)]
theorem g_ifnonnullN {E : GE} {g : Cf} {cc : ByteArray} {own : String} {ret : Option FieldType} {ws : va_W} {cells slots pc : Nat} {lv : List (Nat × Value)} {st : List Value} (C : Cx E g cc own ret) {off : Int} (d : decode cc pc = .ok (.ifnonnull off, 3)) (kk : G E g ws cells slots (pc + 3) lv st) : G E g ws cells slots pc lv (.null :: st) :=
  fun H locs ls hl hP hD hS => lv_ifnonnullN C.1 C.2.1 d (kk H locs ls hl hP hD hS)
