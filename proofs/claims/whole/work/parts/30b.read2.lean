theorem wTot_rng (b : Nat → Nat) : wTot b = -1 ∨ (0 ≤ wTot b ∧ wTot b ≤ 5) := by
  have h := nD_rng b 0 5
  unfold wTot
  (repeat' split) <;> omega
theorem wTot_ok {b : Nat → Nat} (h : wTot b = -1) : nD b 0 5 = -1 ∧ 26 ≤ numI b 0 5 ∧ numI b 0 5 ≤ 99999 := by
  have h1 : nD b 0 5 = -1 := by
    by_cases q : nD b 0 5 = -1
    · exact q
    · rw [wTot_a q] at h; exact h
  have hd := num5 (b := b) (fr := 0) (fun j h2 h3 => nD_dig (fr := 0) (n := 5) h1 j h2 h3)
  by_cases q : numI b 0 5 < 26
  · rw [wTot_b h1 q] at h; omega
  · exact ⟨h1, by omega, by omega⟩
