theorem ldL_sl (lf : Nat → Int32) (all base : Nat) : ldL lf all base 19 = dg all 5 ++ sl (ldB lf) 5 7 ++ dg base 5 ++ sl (ldB lf) 17 7 := by
  simp [ldL, sl]
theorem sl_s (A : List Nat) (b : Nat → Nat) (o n : Nat) : A ++ sl b o (n + 1) = A ++ sl b o n ++ [b (o + n)] := by simp only [sl, List.append_assoc]
theorem sl_sl {b : Nat → Nat} (o : Nat) : ∀ n (l : List Nat), l.length = n → (∀ j, j < n → l.getD j 0 = b (o + j)) → l = sl b o n := by
  intro n
  induction n with
  | zero => intro l hl _; exact List.length_eq_zero_iff.mp hl
  | succ n ih =>
    intro l hl h
    have h1 : l.take n = sl b o n := ih (l.take n) (by rw [List.length_take]; omega) (fun j hj => by
      rw [← h j (by omega)]; simp [List.getD, List.getElem?_take, hj])
    have h2 := tk_s (l := l) (j := n) (by omega)
    rw [List.take_of_length_le (by omega)] at h2
    rw [h2, h1, h n (by omega)]; rfl
/-- the room of the output behind a write of t bytes -/
def ocap (cap t : Nat) : Nat := if t ≤ cap then cap else max t (2 * cap)
def wrC (pr : Int32) (fl : FL) (cap : Nat) : Nat := if pr.toInt ≠ 0 ∧ cn fl fl.length = true then ocap cap (alls fl) else cap
theorem ocap_le {cap t : Nat} : t ≤ ocap cap t ∧ cap ≤ ocap cap t ∧ (cap ≤ 220000 → t ≤ 110000 → ocap cap t ≤ 220000) ∧ (¬ t ≤ cap → max t (2 * cap) ≤ 2 * (ocap cap t - cap)) := by
  unfold ocap
  by_cases h : t ≤ cap
  · rw [if_pos h]; omega
  · rw [if_neg h]; omega
theorem alls_le {fl : FL} (hF : FW fl) : alls fl ≤ 110000 := by
  have := stt_le hF fl.length (Nat.le_refl _)
  have := hF.1
  unfold alls bas; omega
theorem bdy_app {t : Nat} {bd : List Nat} (h : 9 < t) (h2 : 2 ≤ bd.length) : [bd.getD 0 0] ++ [bd.getD 1 0] ++ bdy t bd = bd := by
  rw [bdy_o h]
  match bd, h2 with
  | a :: b :: l, _ => rfl
theorem bdy_len {t : Nat} {bd : List Nat} (h : 9 < t → 2 ≤ bd.length) : (t ≤ 9 ∧ (bdy t bd).length = bd.length) ∨ (9 < t ∧ (bdy t bd).length + 2 = bd.length) := by
  by_cases h9 : t ≤ 9
  · left; rw [bdy_c h9]; exact ⟨h9, rfl⟩
  · right; rw [bdy_o (by omega)]; have := h (by omega); refine ⟨by omega, ?_⟩; rw [List.length_drop]; omega
theorem ef_all {o : List Nat} {t : Nat} {bd : List Nat} (h : (t ≤ 9 ∧ (bdy t bd).length = bd.length) ∨ (9 < t ∧ (bdy t bd).length + 2 = bd.length)) : o ++ (if t ≤ 9 then [] else [bd.getD 0 0] ++ [bd.getD 1 0]) ++ bdy t bd = o ++ bd := by
  rcases h with h | h
  · rw [if_pos h.1, List.append_nil, bdy_c h.1]
  · rw [if_neg (by omega), List.append_assoc, bdy_app h.1 (by omega)]
theorem len_dg (A : List Nat) (n k : Nat) : ((A.length + k : Nat) : Int) = ((A ++ dg n k).length : Int) := by rw [List.length_append, dg_len]
theorem len_1 (A : List Nat) (c : Nat) : ((A.length + 1 : Nat) : Int) = ((A ++ [c]).length : Int) := by rw [List.length_append]; rfl
theorem len_2 (A : List Nat) (c e f : Nat) : (((A ++ [c]).length + 1 : Nat) : Int) = ((A ++ [e] ++ [f]).length : Int) := by simp only [List.length_append, List.length_cons, List.length_nil]
