theorem ldB_50 {lf : Nat → Int32} {k : Nat} (h : k = 10 ∨ k = 11) : ldB lf k = 50 := by unfold ldB; rw [if_pos h]
theorem ldB_52 {lf : Nat → Int32} {k : Nat} (h : k = 20) : ldB lf k = 52 := by unfold ldB; rw [if_neg (by omega), if_pos h]
theorem ldB_53 {lf : Nat → Int32} {k : Nat} (h : k = 21) : ldB lf k = 53 := by unfold ldB; rw [if_neg (by omega), if_neg (by omega), if_pos h]
theorem ldB_o {lf : Nat → Int32} {k : Nat} (h : ¬ (k = 10 ∨ k = 11 ∨ k = 20 ∨ k = 21)) : ldB lf k = u8 (lf k) := by unfold ldB; rw [if_neg (by omega), if_neg (by omega), if_neg (by omega)]
theorem tk_s {l : List Nat} {j : Nat} (h : j < l.length) : l.take (j + 1) = l.take j ++ [l.getD j 0] := by
  rw [List.take_succ_eq_append_getElem h]
  simp [List.getD, h]
theorem ldL_a {lf : Nat → Int32} {a b n : Nat} (h : ¬ (n + 5 < 12 ∨ 16 < n + 5)) : ldL lf a b (n + 1) = ldL lf a b n ++ (if n + 5 = 12 then dg b 5 else []) := by simp only [ldL]; rw [if_neg h, List.append_nil]
theorem ldL_b {lf : Nat → Int32} {a b n : Nat} (h : n + 5 < 12 ∨ 16 < n + 5) : ldL lf a b (n + 1) = ldL lf a b n ++ (if n + 5 = 12 then dg b 5 else []) ++ [ldB lf (n + 5)] := by simp only [ldL]; rw [if_pos h]
theorem drN_s (A : List Nat) (fl : FL) (k : Nat) : A ++ drN fl (k + 1) = A ++ drN fl k ++ dg (fT fl k) 3 ++ dg ((fB fl k).length + 1) 4 ++ dg (stt fl k) 5 := by simp only [drN, List.append_assoc]
theorem fdN_s (A : List Nat) (fl : FL) (k : Nat) : A ++ fdN fl (k + 1) = A ++ fdN fl k ++ fB fl k ++ [30] := by simp only [fdN, List.append_assoc]
theorem B8_d {l : List Nat} (h : B8 l) (j : Nat) : l.getD j 0 < 256 := B8_get h j
