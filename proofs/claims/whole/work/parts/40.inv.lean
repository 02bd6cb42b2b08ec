/-! what holds of every record, kept -/
def LN (fl : FL) (n : Nat) : Prop := ∀ i, i < fl.length → (fB fl i).length ≤ n
theorem LN.mono {fl : FL} {n m : Nat} (h : LN fl n) (hm : n ≤ m) : LN fl m := fun i hi => Nat.le_trans (h i hi) hm
theorem FW_nil : FW [] := ⟨by simp, fun i h => by simp at h⟩
theorem LN_nil (n : Nat) : LN [] n := fun i h => by simp at h
theorem putF_len (fl : FL) (tag a b : Nat) : (putF fl tag a b).length = fl.length + 1 := by simp [putF]
theorem FW_put {fl : FL} {tag a b : Nat} (h : FW fl) (hl : fl.length < 60) (ht : tag ≤ 999) (ha : a < 256) (hb : b < 256) : FW (putF fl tag a b) := by
  refine ⟨by rw [putF_len]; omega, fun i hi => ?_⟩
  rw [putF_len] at hi
  unfold putF
  rw [fT_app, fB_app]
  by_cases e : i = fl.length
  · rw [if_pos e, if_pos e]
    by_cases h10 : tag < 10
    · simp only [if_pos h10]
      exact ⟨ht, B8_nil, by simp, fun q => by omega, fun _ => rfl⟩
    · simp only [if_neg h10]
      refine ⟨ht, ?_, by simp, fun _ => ⟨by simp, by simp⟩, fun q => by omega⟩
      intro z hz
      simp only [List.mem_cons, List.not_mem_nil, or_false] at hz
      omega
  · rw [if_neg e, if_neg e]; exact h.2 i (by omega)
theorem LN_put {fl : FL} {tag a b n : Nat} (h : LN fl n) (hn : 2 ≤ n) : LN (putF fl tag a b) n := by
  intro i hi
  rw [putF_len] at hi
  unfold putF
  rw [fB_app]
  by_cases e : i = fl.length
  · rw [if_pos e]
    by_cases h10 : tag < 10
    · simp only [if_pos h10]; simp
    · simp only [if_neg h10]; simp; omega
  · rw [if_neg e]; exact h i (by omega)
theorem FW_ext {fl fl2 : FL} {i : Nat} {s : List Nat} {c : Nat} (h : FW fl) (hi : i < fl.length) (hlen : fl2.length = fl.length) (hT : ∀ j, fT fl2 j = fT fl j) (hB : ∀ j, fB fl2 j = if j = i then fB fl i ++ s ++ [c] else fB fl j) (h8 : B8 s) (hc : c < 256) (hc31 : c ≠ 31) (hs : fT fl i ≤ 9 → s = []) (hl : (fB fl i).length + s.length + 1 ≤ 1800) : FW fl2 := by
  refine ⟨by rw [hlen]; exact h.1, fun j hj => ?_⟩
  rw [hlen] at hj
  rw [hT, hB]
  by_cases e : j = i
  · subst e
    rw [if_pos rfl]
    obtain ⟨a1, a2, a3, a4, a5⟩ := h.2 j hj
    refine ⟨a1, B8_snoc (B8_app a2 h8) hc, by simp only [List.length_append, List.length_cons, List.length_nil]; omega, fun h9 => ?_, fun h9 => ?_⟩
    · obtain ⟨b1, b2⟩ := a4 h9
      refine ⟨by simp only [List.length_append, List.length_cons, List.length_nil]; omega, ?_⟩
      rw [List.drop_append_of_le_length (by simp only [List.length_append]; omega), List.getLast?_append]
      simp [hc31]
    · rw [hs h9, List.append_nil, c31_snoc, if_neg hc31, a5 h9]
  · rw [if_neg e]; exact h.2 j hj
theorem LN_ext {fl fl2 : FL} {i n m : Nat} {s : List Nat} {c : Nat} (h : LN fl n) (hi : i < fl.length) (hlen : fl2.length = fl.length) (hB : ∀ j, fB fl2 j = if j = i then fB fl i ++ s ++ [c] else fB fl j) (hm : n + s.length + 1 ≤ m) : LN fl2 m := by
  intro j hj
  rw [hlen] at hj
  rw [hB]
  by_cases e : j = i
  · rw [if_pos e]
    have := h i hi
    simp only [List.length_append, List.length_cons, List.length_nil]; omega
  · rw [if_neg e]
    have := h j hj
    omega
theorem FW_sub2 {fl : FL} {x : Int} {code c n : Nat} (h : FW fl) (hn : LN fl n) (hn2 : n + 3 ≤ 1800) (h8 : code < 256) (hc : c < 256) : FW (sub2 fl x code c) ∧ LN (sub2 fl x code c) (n + 3) := by
  by_cases q1 : ¬ (0 < x ∧ x ≤ (fl.length : Int)) ∨ (29 ≤ c ∧ c ≤ 31) ∨ 1200 ≤ tot fl fl.length
  · rw [sub2_0 q1]; exact ⟨h, hn.mono (by omega)⟩
  · have hi : x.toNat - 1 < fl.length := by omega
    have hc31 : c ≠ 31 := by omega
    have hln := hn _ hi
    by_cases q2 : fT fl (x.toNat - 1) ≤ 9 ∨ lastC (fB fl (x.toNat - 1)) = (code : Int)
    · rw [sub2_1 q1 q2]
      have e : ∀ j, fB (addB fl (x.toNat - 1) c) j = if j = x.toNat - 1 then fB fl (x.toNat - 1) ++ [] ++ [c] else fB fl j := fun j => by rw [addB_B hi, List.append_nil]
      exact ⟨FW_ext h hi (addB_len _ _ _) (fun j => addB_T hi) e B8_nil hc hc31 (fun _ => rfl) (by simp only [List.length_nil]; omega), LN_ext hn hi (addB_len _ _ _) e (by simp only [List.length_nil]; omega)⟩
    · by_cases q3 : (29 ≤ code ∧ code ≤ 31) ∨ 1198 < tot fl fl.length
      · rw [sub2_2 q1 q2 q3]; exact ⟨h, hn.mono (by omega)⟩
      · rw [sub2_3 q1 q2 q3]
        have h1 : x.toNat - 1 < (addB fl (x.toNat - 1) 31).length := by rw [addB_len]; exact hi
        have h2 : x.toNat - 1 < (addB (addB fl (x.toNat - 1) 31) (x.toNat - 1) code).length := by rw [addB_len]; exact h1
        have el : (addB (addB (addB fl (x.toNat - 1) 31) (x.toNat - 1) code) (x.toNat - 1) c).length = fl.length := by rw [addB_len, addB_len, addB_len]
        have e : ∀ j, fB (addB (addB (addB fl (x.toNat - 1) 31) (x.toNat - 1) code) (x.toNat - 1) c) j = if j = x.toNat - 1 then fB fl (x.toNat - 1) ++ [31, code] ++ [c] else fB fl j := fun j => by
          rw [addB_B h2, addB_B h1, addB_B hi, addB_B h1, addB_B hi]
          by_cases q : j = x.toNat - 1
          · rw [if_pos q, if_pos q, if_pos rfl, if_pos rfl]; simp
          · rw [if_neg q, if_neg q, if_neg q, addB_B hi, if_neg q]
        have e8 : B8 [31, code] := fun z hz => by
          simp only [List.mem_cons, List.not_mem_nil, or_false] at hz
          omega
        exact ⟨FW_ext h hi el (fun j => by rw [addB_T h2, addB_T h1, addB_T hi]) e e8 hc hc31 (fun q => absurd (Or.inl q) q2) (by simp only [List.length_cons, List.length_nil]; omega), LN_ext hn hi el e (by simp only [List.length_cons, List.length_nil]; omega)⟩
theorem sl_mem {b : Nat → Nat} {o z : Nat} : ∀ {n : Nat}, z ∈ sl b o n → ∃ j, j < n ∧ z = b (o + j)
  | 0, h => by simp [sl] at h
  | n + 1, h => by
    simp only [sl, List.mem_append, List.mem_singleton] at h
    rcases h with h | h
    · obtain ⟨j, h1, h2⟩ := sl_mem h
      exact ⟨j, by omega, h2⟩
    · exact ⟨n, by omega, h⟩
theorem gl_dr {l : List Nat} {c : Nat} (h : (l.drop 2).getLast? = some c) : 3 ≤ l.length ∧ l.getD (l.length - 1) 0 = c := by
  have h0 : 2 < l.length := by
    rcases Nat.lt_or_ge 2 l.length with q | q
    · exact q
    · rw [List.drop_eq_nil_of_le q] at h; simp at h
  refine ⟨by omega, ?_⟩
  rw [List.getLast?_eq_getElem?, List.getElem?_drop, List.length_drop, show 2 + (l.length - 2 - 1) = l.length - 1 by omega] at h
  simp [List.getD, h]
/-- a row of a right record, looked at closely -/
theorem row_in {b : Nat → Nat} {row base all : Nat} (h : wRow b row base all = -1) : (numI b row 3 ≤ 9 → ∀ j, j < (numI b (row + 3) 4).toNat - 1 → b (base + (numI b (row + 7) 5).toNat + j) ≠ 31) ∧ (9 < numI b row 3 → 3 < (numI b (row + 3) 4).toNat → b (base + (numI b (row + 7) 5).toNat + ((numI b (row + 3) 4).toNat - 1) - 1) ≠ 31) := by
  obtain ⟨t1, t2, t3, t4, t5⟩ := wRow_ok h
  have hnd : nD b row 12 = -1 := by
    by_cases h1 : nD b row 12 = -1
    · exact h1
    · rw [wRow_1 h1] at h; exact h
  have h2 : ¬ (numI b (row + 3) 4 < 1 ∨ (9 < numI b row 3 ∧ numI b (row + 3) 4 < 3) ∨ (base : Int) + numI b (row + 7) 5 + numI b (row + 3) 4 > (all : Int) - 1) := by omega
  refine ⟨fun h9 j hj => ?_, fun h9 h3 => ?_⟩
  · rw [wRow_3 hnd h2 h9] at h
    have hm : nM b (base + (numI b (row + 7) 5).toNat) (base + (numI b (row + 7) 5).toNat + (numI b (row + 3) 4).toNat - 1 - (base + (numI b (row + 7) 5).toNat)) = -1 := by
      unfold wCtl at h
      by_cases q : nM b (base + (numI b (row + 7) 5).toNat) (base + (numI b (row + 7) 5).toNat + (numI b (row + 3) 4).toNat - 1 - (base + (numI b (row + 7) 5).toNat)) = -1
      · exact q
      · rw [if_pos q] at h; exact h
    have := fI_none hm (base + (numI b (row + 7) 5).toNat + j) (by omega) (by omega)
    simp only [isM, decide_eq_false_iff_not] at this
    omega
  · rw [wRow_4 hnd h2 h9] at h
    have ho : fI (badO b (base + (numI b (row + 7) 5).toNat + (numI b (row + 3) 4).toNat - 1)) (base + (numI b (row + 7) 5).toNat + 2) (base + (numI b (row + 7) 5).toNat + (numI b (row + 3) 4).toNat - 1 - (base + (numI b (row + 7) 5).toNat + 2)) = -1 := by
      unfold wOth at h
      by_cases q : fI (badO b (base + (numI b (row + 7) 5).toNat + (numI b (row + 3) 4).toNat - 1)) (base + (numI b (row + 7) 5).toNat + 2) (base + (numI b (row + 7) 5).toNat + (numI b (row + 3) 4).toNat - 1 - (base + (numI b (row + 7) 5).toNat + 2)) = -1
      · exact q
      · rw [if_pos q] at h
        split at h
        · omega
        · split at h <;> omega
    intro h31
    have := fI_none ho (base + (numI b (row + 7) 5).toNat + ((numI b (row + 3) 4).toNat - 1) - 1) (by omega) (by omega)
    have hl : base + (numI b (row + 7) 5).toNat + ((numI b (row + 3) 4).toNat - 1) - 1 + 1 = base + (numI b (row + 7) 5).toNat + (numI b (row + 3) 4).toNat - 1 := by omega
    unfold badO at this
    rw [h31, hl] at this
    simp [isM] at this
theorem FW_rd {b : Nat → Nat} (hb : ∀ j, b j < 256) {all : Nat} (h26 : 26 ≤ all) (ha : all ≤ 1500) (h : wRec b all = -1) : FW (rdF b (rCnt b)) ∧ LN (rdF b (rCnt b)) all ∧ rCnt b ≤ 60 := by
  obtain ⟨_, ⟨_, _, _, h60⟩, hw⟩ := wRec_ok h26 h
  have hr : rCnt b ≤ 60 := by unfold rCnt; omega
  have hlen : ∀ i, i < rCnt b → rLen b i ≤ all := fun i hi => by
    obtain ⟨_, q2, q3, q4, _⟩ := wRow_ok (hw i hi)
    unfold rLen; omega
  refine ⟨⟨by rw [rdF_len]; exact hr, fun i hi => ?_⟩, fun i hi => ?_, hr⟩
  · rw [rdF_len] at hi
    obtain ⟨q1, q2, q3, q4, q5⟩ := wRow_ok (hw i hi)
    obtain ⟨w1, w2⟩ := row_in (hw i hi)
    have hl := hlen i hi
    rw [rdF_T hi, rdF_B hi, sl_len]
    refine ⟨by unfold rTag; omega, sl_B8 hb _ _, by omega, fun h9 => ⟨by unfold rTag at h9; unfold rLen; omega, fun hg => ?_⟩, fun h9 => ?_⟩
    · obtain ⟨g1, g2⟩ := gl_dr hg
      rw [sl_len] at g1 g2
      rw [sl_get (by omega)] at g2
      refine w2 (by unfold rTag at h9; omega) (by unfold rLen at g1; omega) ?_
      unfold rLen rSt at g2
      rw [← g2]
      congr 1
      unfold rLen at g1
      omega
    · unfold c31
      refine List.count_eq_zero.mpr (fun hm => ?_)
      obtain ⟨j, h1, h2⟩ := sl_mem hm
      exact w1 (by unfold rTag at h9; omega) j h1 h2.symm
  · rw [rdF_len] at hi
    have hl := hlen i hi
    rw [rdF_B hi, sl_len]; omega
theorem ldL_cg {lf lf2 : Nat → Int32} (h : ∀ j, j < 24 → lf j = lf2 j) (all base : Nat) : ∀ n, n ≤ 19 → ldL lf all base n = ldL lf2 all base n
  | 0, _ => rfl
  | n + 1, hn => by
    have e : ldB lf (n + 5) = ldB lf2 (n + 5) := by unfold ldB; rw [h (n + 5) (by omega)]
    simp only [ldL, ldL_cg h all base n (by omega), e]
theorem frm_cg {lf lf2 : Nat → Int32} (h : ∀ j, j < 24 → lf j = lf2 j) (fl : FL) : frm lf fl = frm lf2 fl := by
  unfold frm; rw [ldL_cg h _ _ 19 (Nat.le_refl _)]
theorem RW_eq {b : Nat → Nat} {f1 f2 : Nat → Int32} {R : Nat} (h1 : RW b f1 R) (h2 : RW b f2 R) {i j : Nat} (hi : i < R) (hj : j ≤ 2) : f1 (3 * i + j) = f2 (3 * i + j) := by
  obtain ⟨a1, a2, a3⟩ := h1 i hi
  obtain ⟨b1, b2, b3⟩ := h2 i hi
  rcases (show j = 0 ∨ j = 1 ∨ j = 2 by omega) with rfl | rfl | rfl
  · exact ti_inj (by rw [Nat.add_zero, a1, b1])
  · exact ti_inj (by rw [a2, b2])
  · exact ti_inj (by rw [a3, b3])
theorem rdP_in {b : Nat → Nat} {S P : Nat} (h : P ≤ S) : P ≤ rdP b S P ∧ rdP b S P ≤ S := by
  unfold rdP
  split
  · omega
  · split
    · omega
    · split
      · omega
      · split
        · split <;> omega
        · omega
/-! WHAT HOLDS BETWEEN TWO CALLS of the script: k calls lie behind -/
def IA (k S P : Nat) (f : Nat → Int32) (sz pl msz mpl : Int32) : Prop := sz.toInt = (S : Int) ∧ msz.toInt = (S : Int) ∧ pl.toInt = (P : Int) ∧ mpl.toInt = (P : Int) ∧ P ≤ S ∧ S ≤ k ∧ S ≤ 1500 ∧ BF f
def IB (k : Nat) (fl : FL) (pr fc : Int32) (fd : Nat → FV) (te nf : Int32) (tf sf yf lf mlf : Nat → Int32) : Prop := XPr pr fc fd fl ∧ MPr te nf tf sf yf fl ∧ pr.toInt = te.toInt ∧ FW fl ∧ LN fl (3 * k) ∧ (pr.toInt = 1 → ∀ j, j < 24 → lf j = mlf j)
def IC (R : Nat) (b0 : Nat → Nat) (rc mrc : Int32) (rf mrf : Nat → Int32) : Prop := rc.toInt = (R : Int) ∧ mrc.toInt = (R : Int) ∧ R ≤ 60 ∧ RW b0 rf R ∧ RW b0 mrf R
def ID (o : List Nat) (cap : Nat) (os wz : Int32) (of wf : Nat → Int32) : Prop := os.toInt = (o.length : Int) ∧ wz.toInt = (o.length : Int) ∧ Bs of 0 o ∧ Bs wf 0 o ∧ o.length ≤ cap ∧ o.length ≤ 115000 ∧ 256 ≤ cap ∧ cap ≤ 220000
def IN (k P cap cN sN : Nat) : Prop := cN ≤ 138 + 3 * k + 60 * P ∧ sN ≤ 234374 + 11100 * k + 240 * P + 2 * (cap - 256)
theorem IA.up {k S P : Nat} {f : Nat → Int32} {sz pl msz mpl : Int32} (h : IA k S P f sz pl msz mpl) : IA (k + 1) S P f sz pl msz mpl := by
  obtain ⟨a1, a2, a3, a4, a5, a6, a7, a8⟩ := h
  exact ⟨a1, a2, a3, a4, a5, by omega, a7, a8⟩
theorem IB.up {k : Nat} {fl : FL} {pr fc : Int32} {fd : Nat → FV} {te nf : Int32} {tf sf yf lf mlf : Nat → Int32} (h : IB k fl pr fc fd te nf tf sf yf lf mlf) : IB (k + 1) fl pr fc fd te nf tf sf yf lf mlf := by
  obtain ⟨a1, a2, a3, a4, a5, a6⟩ := h
  exact ⟨a1, a2, a3, a4, a5.mono (by omega), a6⟩
/-- a new record, of which nothing is there yet -/
theorem IB.no {k : Nat} {pr fc : Int32} {fd : Nat → FV} {te nf : Int32} {tf sf yf lf mlf : Nat → Int32} (h1 : pr.toInt = 0) (h2 : fc.toInt = 0) (h3 : FG fd) (h4 : te.toInt = 0) (h5 : 0 ≤ nf.toInt ∧ nf.toInt ≤ 60) : IB k [] pr fc fd te nf tf sf yf lf mlf :=
  ⟨⟨Or.inr ⟨h1, rfl⟩, h2, fun i hi => by simp at hi, h3⟩, Or.inr ⟨h4, rfl, h5⟩, by rw [h1, h4], FW_nil, LN_nil _, fun q => by omega⟩
