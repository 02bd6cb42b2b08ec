theorem XF_put {fd : Nat → FV} {fl : FL} (h : XF fd fl) {tg f1 f2 sz su : Int32} {bq cp tag a b : Nat} {ff : Nat → Int32} (ht : tg.toInt = (tag : Int)) (h1 : f1.toInt = (a : Int)) (h2 : f2.toInt = (b : Int)) (hs : sz.toInt = 0) (hu : su.toInt = 0) : XF (va_up fd fl.length (tg, f1, f2, sz, su, bq, cp, ff)) (putF fl tag a b) := by
  intro j hj
  simp only [putF, List.length_append, List.length_cons, List.length_nil] at hj
  unfold putF
  rw [fT_app, fB_app]
  by_cases e : j = fl.length
  · subst e
    rw [if_pos rfl, if_pos rfl, va_up_self]
    have hb : bdy tag (if tag < 10 then [] else [a, b]) = [] := by
      unfold bdy
      by_cases h9 : tag ≤ 9
      · rw [if_pos h9, if_pos (by omega)]
      · rw [if_neg h9, if_neg (by omega)]; rfl
    unfold FR
    dsimp only
    rw [hb]
    refine ⟨ht, hs, Bs_nil _ _, hu, Nat.zero_le _, fun h9 => ?_⟩
    rw [if_neg (by omega)]
    exact ⟨h1, h2⟩
  · rw [if_neg e, if_neg e, va_up_ne fd _ e]
    exact h j (by omega)
theorem FG_up {fd : Nat → FV} (h : FG fd) {i : Nat} {tg f1 f2 sz su : Int32} {bq cp : Nat} {ff : Nat → Int32} (h1 : BF ff) (h2 : 16 ≤ cp) (h3 : cp ≤ 4000) : FG (va_up fd i (tg, f1, f2, sz, su, bq, cp, ff)) := by
  intro j hj
  by_cases e : j = i
  · subst e; rw [va_up_self]; exact ⟨h1, h2, h3⟩
  · rw [va_up_ne fd _ e]; exact h j hj
theorem up_up (fd : Nat → FV) (i : Nat) (v w : FV) : va_up (va_up fd i v) i w = va_up fd i w := by
  funext j
  by_cases e : j = i
  · subst e; rw [va_up_self, va_up_self]
  · rw [va_up_ne _ w e, va_up_ne fd v e, va_up_ne fd w e]
theorem bdy_snoc {t : Nat} {bd : List Nat} {c : Nat} (h : 9 < t → 2 ≤ bd.length) : bdy t (bd ++ [c]) = bdy t bd ++ [c] := by
  unfold bdy
  by_cases h9 : t ≤ 9
  · rw [if_pos h9, if_pos h9]
  · rw [if_neg h9, if_neg h9, List.drop_append_of_le_length (h (by omega))]
/-- a byte more in the i-th field of the class -/
theorem XF_add {fd : Nat → FV} {fl : FL} (h : XF fd fl) {i c : Nat} (hi : i < fl.length) (h2 : 9 < fT fl i → 2 ≤ (fB fl i).length) {tg f1 f2 sz su : Int32} {bq cp : Nat} {ff : Nat → Int32} (ht : tg.toInt = (fT fl i : Int)) (hs : sz.toInt = (((bdy (fT fl i) (fB fl i)).length + 1 : Nat) : Int)) (hb : Bs ff 0 (bdy (fT fl i) (fB fl i) ++ [c])) (hu : su.toInt = (c31 (bdy (fT fl i) (fB fl i) ++ [c]) : Int)) (hc : (bdy (fT fl i) (fB fl i)).length + 1 ≤ cp) (hI : 9 < fT fl i → f1.toInt = ((fB fl i).getD 0 0 : Int) ∧ f2.toInt = ((fB fl i).getD 1 0 : Int)) : XF (va_up fd i (tg, f1, f2, sz, su, bq, cp, ff)) (addB fl i c) := by
  intro j hj
  rw [addB_len] at hj
  rw [addB_T hi, addB_B hi]
  by_cases e : j = i
  · subst e
    rw [if_pos rfl, va_up_self]
    unfold FR
    dsimp only
    rw [bdy_snoc h2]
    refine ⟨ht, ?_, hb, hu, ?_, fun h9 => ?_⟩
    · rw [hs]; simp
    · simp only [List.length_append, List.length_cons, List.length_nil]; omega
    · have := h2 h9
      rw [gd_l (by omega), gd_l (by omega)]
      exact hI h9
  · rw [if_neg e, va_up_ne fd _ e]
    exact h j hj
theorem xs_lc {x : Int32} {t : Nat} {bd : List Nat} (e : x.toInt = lCn (bdy t bd) (bdy t bd).length) (h : 9 < t) : x.toInt = lastC bd := by
  rw [e]; unfold lastC; rw [bdy_o h]; simp
theorem xs_3 {fd : Nat → FV} {fl : FL} (h : XF fd fl) {i a b c : Nat} (hi : i < fl.length) (h2 : 9 < fT fl i → 2 ≤ (fB fl i).length) {tg f1 f2 sz su : Int32} {bq cp : Nat} {ff : Nat → Int32} (ht : tg.toInt = (fT fl i : Int)) (hs : sz.toInt = (((bdy (fT fl i) (fB fl i)).length + 3 : Nat) : Int)) (hb : Bs ff 0 (bdy (fT fl i) (fB fl i) ++ [a] ++ [b] ++ [c])) (hu : su.toInt = (c31 (bdy (fT fl i) (fB fl i) ++ [a] ++ [b] ++ [c]) : Int)) (hc : (bdy (fT fl i) (fB fl i)).length + 3 ≤ cp) (hI : 9 < fT fl i → f1.toInt = ((fB fl i).getD 0 0 : Int) ∧ f2.toInt = ((fB fl i).getD 1 0 : Int)) : XF (va_up fd i (tg, f1, f2, sz, su, bq, cp, ff)) (addB (addB (addB fl i a) i b) i c) := by
  have i1 : i < (addB fl i a).length := by rw [addB_len]; exact hi
  have i2 : i < (addB (addB fl i a) i b).length := by rw [addB_len]; exact i1
  intro j hj
  rw [addB_len, addB_len, addB_len] at hj
  rw [addB_T i2, addB_T i1, addB_T hi, addB_B i2]
  by_cases e : j = i
  · subst e
    rw [if_pos rfl, addB_B i1, if_pos rfl, addB_B hi, if_pos rfl, va_up_self]
    unfold FR
    dsimp only
    rw [bdy_snoc (fun q => by have := h2 q; simp only [List.length_append, List.length_cons, List.length_nil]; omega), bdy_snoc (fun q => by have := h2 q; simp only [List.length_append, List.length_cons, List.length_nil]; omega), bdy_snoc h2]
    refine ⟨ht, ?_, hb, hu, ?_, fun h9 => ?_⟩
    · rw [hs]; simp
    · simp only [List.length_append, List.length_cons, List.length_nil]; omega
    · have := h2 h9
      rw [gd_l (by simp only [List.length_append, List.length_cons, List.length_nil]; omega), gd_l (by simp only [List.length_append, List.length_cons, List.length_nil]; omega), gd_l (by omega), gd_l (by simp only [List.length_append, List.length_cons, List.length_nil]; omega), gd_l (by simp only [List.length_append, List.length_cons, List.length_nil]; omega), gd_l (by omega)]
      exact hI h9
  · rw [if_neg e, addB_B i1, if_neg e, addB_B hi, if_neg e, va_up_ne fd _ e]
    exact h j hj

theorem xs_pr {pr fc : Int32} {fl : FL} {y : Int} (h : pr.toInt = 1 ∨ pr.toInt = 0 ∧ fl = []) (h2 : fc.toInt = (fl.length : Int)) (h3 : 1 ≤ y ∧ y ≤ fc.toInt) {Q : Prop} : pr.toInt = 1 ∨ pr.toInt = 0 ∧ Q := by
  rcases h with h | ⟨_, h⟩
  · exact Or.inl h
  · subst h; rw [h2] at h3; simp at h3; omega
