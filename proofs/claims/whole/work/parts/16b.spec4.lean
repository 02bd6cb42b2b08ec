theorem wHd_1 {b : Nat → Nat} {all : Nat} {B : Int} (h : ¬ (25 ≤ B ∧ B ≤ (all : Int) - 1 ∧ (B - 25) % 12 = 0)) : wHd b all B = 12 := by unfold wHd; rw [if_pos h]
theorem wHd_2 {b : Nat → Nat} {all : Nat} {B : Int} (h : 25 ≤ B ∧ B ≤ (all : Int) - 1 ∧ (B - 25) % 12 = 0) (h2 : b (B.toNat - 1) ≠ 30) : wHd b all B = B - 1 := by unfold wHd; rw [if_neg (by omega), if_pos h2]
theorem wHd_3 {b : Nat → Nat} {all : Nat} {B : Int} (h : 25 ≤ B ∧ B ≤ (all : Int) - 1 ∧ (B - 25) % 12 = 0) (h2 : b (B.toNat - 1) = 30) (h3 : b (all - 1) ≠ 29) : wHd b all B = (all : Int) - 1 := by unfold wHd; rw [if_neg (by omega), if_neg (by omega), if_pos h3]
theorem wHd_4 {b : Nat → Nat} {all : Nat} {B : Int} (h : 25 ≤ B ∧ B ≤ (all : Int) - 1 ∧ (B - 25) % 12 = 0) (h2 : b (B.toNat - 1) = 30) (h3 : b (all - 1) = 29) (h4 : 60 < (B - 25) / 12) : wHd b all B = 24 := by unfold wHd; rw [if_neg (by omega), if_neg (by omega), if_neg (by omega), if_pos h4]
theorem wHd_5 {b : Nat → Nat} {all : Nat} {B : Int} (h : 25 ≤ B ∧ B ≤ (all : Int) - 1 ∧ (B - 25) % 12 = 0) (h2 : b (B.toNat - 1) = 30) (h3 : b (all - 1) = 29) (h4 : (B - 25) / 12 ≤ 60) : wHd b all B = -1 := by unfold wHd; rw [if_neg (by omega), if_neg (by omega), if_neg (by omega), if_neg (by omega)]
theorem wRec_a {b : Nat → Nat} {all : Nat} (h26 : 26 ≤ all) (h : wFix b ≠ -1) : wRec b all = wFix b := by rw [wRec_eq b all h26, if_pos h]
theorem wRec_b {b : Nat → Nat} {all : Nat} (h26 : 26 ≤ all) (h : wFix b = -1) (h2 : nD b 12 5 ≠ -1) : wRec b all = nD b 12 5 := by rw [wRec_eq b all h26, if_neg (by omega), if_pos h2]
theorem wRec_c {b : Nat → Nat} {all : Nat} (h26 : 26 ≤ all) (h : wFix b = -1) (h2 : nD b 12 5 = -1) (h3 : wHd b all (numI b 12 5) ≠ -1) : wRec b all = wHd b all (numI b 12 5) := by rw [wRec_eq b all h26, if_neg (by omega), if_neg (by omega), if_pos h3]
theorem wRec_d {b : Nat → Nat} {all : Nat} (h26 : 26 ≤ all) (h : wFix b = -1) (h2 : nD b 12 5 = -1) (h3 : wHd b all (numI b 12 5) = -1) : wRec b all = fRow b (numI b 12 5).toNat all 0 ((numI b 12 5 - 25) / 12).toNat := by rw [wRec_eq b all h26, if_neg (by omega), if_neg (by omega), if_neg (by omega)]
theorem wFix_a {b : Nat → Nat} (h : b 10 ≠ 50) : wFix b = 10 := by unfold wFix; rw [if_pos h]
theorem wFix_b {b : Nat → Nat} (h0 : b 10 = 50) (h : b 11 ≠ 50) : wFix b = 11 := by unfold wFix; rw [if_neg (by omega), if_pos h]
theorem wFix_c {b : Nat → Nat} (h0 : b 10 = 50) (h1 : b 11 = 50) (h : b 20 ≠ 52) : wFix b = 20 := by unfold wFix; rw [if_neg (by omega), if_neg (by omega), if_pos h]
theorem wFix_d {b : Nat → Nat} (h0 : b 10 = 50) (h1 : b 11 = 50) (h2 : b 20 = 52) (h : b 21 ≠ 53) : wFix b = 21 := by unfold wFix; rw [if_neg (by omega), if_neg (by omega), if_neg (by omega), if_pos h]
theorem wFix_e {b : Nat → Nat} (h0 : b 10 = 50) (h1 : b 11 = 50) (h2 : b 20 = 52) (h : b 21 = 53) : wFix b = -1 := by unfold wFix; rw [if_neg (by omega), if_neg (by omega), if_neg (by omega), if_neg (by omega)]
theorem fRow_ok {b : Nat → Nat} {base all : Nat} : ∀ {n r : Nat}, fRow b base all r n = -1 → ∀ i, r ≤ i → i < r + n → wRow b (24 + 12 * i) base all = -1
  | 0, _, _, i, h1, h2 => by omega
  | n + 1, r, h, i, h1, h2 => by
    simp only [fRow] at h
    split at h
    · rename_i h3; exact absurd h h3
    · rename_i h3
      by_cases e : i = r
      · subst e; omega
      · exact fRow_ok h i (by omega) (by omega)
