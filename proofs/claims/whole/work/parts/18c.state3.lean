theorem tg_step {bd : List Nat} {j : Nat} (hj : 2 ≤ j) (hl : j < bd.length) : c31 ((bd.drop 2).take (j + 1 - 2)) = c31 ((bd.drop 2).take (j - 2)) + (if bd.getD j 0 = 31 then 1 else 0) := by
  rw [show j + 1 - 2 = (j - 2) + 1 by omega, c31_tk (by simp; omega), dr_get hj]
theorem tg_next {fl : FL} {k j : Nat} {s s2 z : Int} (h9 : 9 < fT fl k) (hj : 2 ≤ j) (hl : j < (fB fl k).length) (hs : s = (tot fl k : Int) + ((fB fl k).length : Int) - (if fT fl k ≤ 9 then 0 else (c31 (((fB fl k).drop 2).take (j - 2)) : Int))) (hz : ((fB fl k).getD j 0 = 31 ∧ z = 1) ∨ ((fB fl k).getD j 0 ≠ 31 ∧ z = 0)) (h2 : s2 = s - z) : s2 = (tot fl k : Int) + ((fB fl k).length : Int) - (if fT fl k ≤ 9 then 0 else (c31 (((fB fl k).drop 2).take (j + 1 - 2)) : Int)) := by
  rw [if_neg (by omega)] at hs ⊢
  rw [tg_step hj hl, h2, hs]
  rcases hz with ⟨a, b⟩ | ⟨a, b⟩
  · rw [if_pos a, b]; omega
  · rw [if_neg a, b]; omega
theorem tg_e1 {fl : FL} {k j : Nat} {s : Int} (hs : s = (tot fl k : Int) + ((fB fl k).length : Int) - (if fT fl k ≤ 9 then 0 else (c31 (((fB fl k).drop 2).take (j - 2)) : Int))) (h : fT fl k ≤ 9) : s = (tot fl (k + 1) : Int) := by
  rw [if_pos h] at hs
  simp only [tot, hld]
  rw [if_pos h]; omega
theorem tg_e2 {fl : FL} {k j : Nat} {s : Int} (hs : s = (tot fl k : Int) + ((fB fl k).length : Int) - (if fT fl k ≤ 9 then 0 else (c31 (((fB fl k).drop 2).take (j - 2)) : Int))) (hj : fT fl k ≤ 9 ∨ j = (fB fl k).length) : s = (tot fl (k + 1) : Int) := by
  by_cases h : fT fl k ≤ 9
  · exact tg_e1 hs h
  · rw [if_neg h] at hs
    have e : j - 2 = ((fB fl k).drop 2).length := by simp; omega
    rw [e, c31_all] at hs
    have := c31_le ((fB fl k).drop 2)
    simp only [List.length_drop] at this
    simp only [tot, hld]
    rw [if_neg h]; omega
theorem tg_0 {fl : FL} {k : Nat} {s : Int} (hs : s = (tot fl k : Int) + ((fB fl k).length : Int)) : s = (tot fl k : Int) + ((fB fl k).length : Int) - (if fT fl k ≤ 9 then 0 else (c31 (((fB fl k).drop 2).take (2 - 2)) : Int)) := by
  have : c31 (((fB fl k).drop 2).take (2 - 2)) = 0 := by simp [c31]
  rw [this, hs]; split <;> simp
theorem tg_b {fl : FL} {k j : Nat} (h : (fB fl k).length ≤ 1800) : 0 ≤ (if fT fl k ≤ 9 then 0 else (c31 (((fB fl k).drop 2).take (j - 2)) : Int)) ∧ (if fT fl k ≤ 9 then 0 else (c31 (((fB fl k).drop 2).take (j - 2)) : Int)) ≤ 1800 := by
  split
  · omega
  · have := c31_le (((fB fl k).drop 2).take (j - 2))
    simp only [List.length_take, List.length_drop] at this
    omega
