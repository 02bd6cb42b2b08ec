theorem wRow_1 {b : Nat → Nat} {row base all : Nat} (h : nD b row 12 ≠ -1) : wRow b row base all = nD b row 12 := by unfold wRow; rw [if_pos h]
theorem wRow_2 {b : Nat → Nat} {row base all : Nat} (h : nD b row 12 = -1) (h2 : numI b (row + 3) 4 < 1 ∨ (9 < numI b row 3 ∧ numI b (row + 3) 4 < 3) ∨ (base : Int) + numI b (row + 7) 5 + numI b (row + 3) 4 > (all : Int) - 1) : wRow b row base all = ((row + 3 : Nat) : Int) := by unfold wRow; rw [if_neg (by omega), if_pos h2]
theorem wRow_3 {b : Nat → Nat} {row base all : Nat} (h : nD b row 12 = -1) (h2 : ¬ (numI b (row + 3) 4 < 1 ∨ (9 < numI b row 3 ∧ numI b (row + 3) 4 < 3) ∨ (base : Int) + numI b (row + 7) 5 + numI b (row + 3) 4 > (all : Int) - 1)) (h3 : numI b row 3 ≤ 9) : wRow b row base all = wCtl b (base + (numI b (row + 7) 5).toNat) (base + (numI b (row + 7) 5).toNat + (numI b (row + 3) 4).toNat - 1) := by unfold wRow; rw [if_neg (by omega), if_neg h2, if_pos h3]
theorem wRow_4 {b : Nat → Nat} {row base all : Nat} (h : nD b row 12 = -1) (h2 : ¬ (numI b (row + 3) 4 < 1 ∨ (9 < numI b row 3 ∧ numI b (row + 3) 4 < 3) ∨ (base : Int) + numI b (row + 7) 5 + numI b (row + 3) 4 > (all : Int) - 1)) (h3 : 9 < numI b row 3) : wRow b row base all = wOth b (base + (numI b (row + 7) 5).toNat) (base + (numI b (row + 7) 5).toNat + (numI b (row + 3) 4).toNat - 1) := by unfold wRow; rw [if_neg (by omega), if_neg h2, if_neg (by omega)]
def wHd (b : Nat → Nat) (all : Nat) (B : Int) : Int := if ¬ (25 ≤ B ∧ B ≤ (all : Int) - 1 ∧ (B - 25) % 12 = 0) then 12 else if b (B.toNat - 1) ≠ 30 then B - 1 else if b (all - 1) ≠ 29 then (all : Int) - 1 else if 60 < (B - 25) / 12 then 24 else -1
theorem if_cas {c3 c4 c5 c6 : Prop} [Decidable c3] [Decidable c4] [Decidable c5] [Decidable c6] {x4 x5 F : Int} (h4 : c3 → x4 ≠ -1) (h5 : x5 ≠ -1) : (if (if c3 then (-1 : Int) else 12) ≠ -1 then (if c3 then (-1 : Int) else 12) else if c4 then x4 else if c5 then x5 else if c6 then 24 else F) = if (if ¬ c3 then 12 else if c4 then x4 else if c5 then x5 else if c6 then 24 else -1) ≠ (-1 : Int) then (if ¬ c3 then 12 else if c4 then x4 else if c5 then x5 else if c6 then 24 else -1) else F := by
  by_cases h3 : c3
  · have := h4 h3
    by_cases g4 : c4
    · simp [h3, g4, this]
    · by_cases g5 : c5
      · simp [h3, g4, g5, h5]
      · by_cases g6 : c6 <;> simp [h3, g4, g5, g6]
  · simp [h3]
theorem wRec_eq (b : Nat → Nat) (all : Nat) (h26 : 26 ≤ all) : wRec b all = if wFix b ≠ -1 then wFix b else if nD b 12 5 ≠ -1 then nD b 12 5 else if wHd b all (numI b 12 5) ≠ -1 then wHd b all (numI b 12 5) else fRow b (numI b 12 5).toNat all 0 ((numI b 12 5 - 25) / 12).toNat := by
  unfold wRec wLead
  by_cases h1 : wFix b ≠ -1
  · rw [if_pos h1, if_pos h1, if_pos h1]
  · rw [if_neg h1, if_neg h1]
    by_cases h2 : nD b 12 5 ≠ -1
    · rw [if_pos h2, if_pos h2, if_pos h2]
    · rw [if_neg h2, if_neg h2]
      unfold wHd
      exact if_cas (fun h => by omega) (by omega)
theorem wHd_ok {b : Nat → Nat} {all : Nat} {B : Int} (h26 : 26 ≤ all) (h : wHd b all B = -1) : 25 ≤ B ∧ B ≤ (all : Int) - 1 ∧ (B - 25) % 12 = 0 ∧ (B - 25) / 12 ≤ 60 := by
  unfold wHd at h
  (repeat' split at h) <;> omega
/-- the rows that were read, in an array -/
def RW (b : Nat → Nat) (nf : Nat → Int32) (k : Nat) : Prop := ∀ i, i < k → (nf (3 * i)).toInt = numI b (24 + 12 * i) 3 ∧ (nf (3 * i + 1)).toInt = numI b (24 + 12 * i + 3) 4 ∧ (nf (3 * i + 2)).toInt = numI b (24 + 12 * i + 7) 5
theorem RW_0 (b : Nat → Nat) (nf : Nat → Int32) : RW b nf 0 := fun i h => by omega
theorem RW_step {b : Nat → Nat} {nf nf2 : Nat → Int32} {k : Nat} (h : RW b nf k) (hk : ∀ j, j < 3 * k → nf2 j = nf j) (h1 : (nf2 (3 * k)).toInt = numI b (24 + 12 * k) 3) (h2 : (nf2 (3 * k + 1)).toInt = numI b (24 + 12 * k + 3) 4) (h3 : (nf2 (3 * k + 2)).toInt = numI b (24 + 12 * k + 7) 5) : RW b nf2 (k + 1) := by
  intro i hi
  by_cases e : i = k
  · subst e; exact ⟨h1, h2, h3⟩
  · rw [hk (3 * i) (by omega), hk (3 * i + 1) (by omega), hk (3 * i + 2) (by omega)]
    exact h i (by omega)
theorem upd_s (f : Nat → Int32) (k : Nat) (v : Int32) : upd f k v k = v := by simp [upd]
theorem upd_n {f : Nat → Int32} {k j : Nat} {v : Int32} (h : j ≠ k) : upd f k v j = f j := by simp [upd, h]
theorem upd3_1 (f : Nat → Int32) (k : Nat) (a b c : Int32) : upd (upd (upd f (3 * k) a) (3 * k + 1) b) (3 * k + 2) c (3 * k) = a := by rw [upd_n (by omega), upd_n (by omega), upd_s]
theorem upd3_2 (f : Nat → Int32) (k : Nat) (a b c : Int32) : upd (upd (upd f (3 * k) a) (3 * k + 1) b) (3 * k + 2) c (3 * k + 1) = b := by rw [upd_n (by omega), upd_s]
theorem upd3_3 (f : Nat → Int32) (k : Nat) (a b c : Int32) : upd (upd (upd f (3 * k) a) (3 * k + 1) b) (3 * k + 2) c (3 * k + 2) = c := by rw [upd_s]
theorem upd3_o (f : Nat → Int32) (k : Nat) (a b c : Int32) (j : Nat) (h : j < 3 * k) : upd (upd (upd f (3 * k) a) (3 * k + 1) b) (3 * k + 2) c j = f j := by rw [upd_n (by omega), upd_n (by omega), upd_n (by omega)]
