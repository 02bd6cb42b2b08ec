theorem nM2 (b : Nat → Nat) (fr : Nat) : (29 ≤ b fr ∧ b fr ≤ 31 ∧ nM b fr 2 = (fr : Int)) ∨ (¬ (29 ≤ b fr ∧ b fr ≤ 31) ∧ 29 ≤ b (fr + 1) ∧ b (fr + 1) ≤ 31 ∧ nM b fr 2 = (fr : Int) + 1) ∨ (¬ (29 ≤ b fr ∧ b fr ≤ 31) ∧ ¬ (29 ≤ b (fr + 1) ∧ b (fr + 1) ≤ 31) ∧ nM b fr 2 = -1) := by
  by_cases h1 : 29 ≤ b fr ∧ b fr ≤ 31
  · left; exact ⟨h1.1, h1.2, nM_hit h1 (by omega)⟩
  · right
    rw [nM_miss h1 (by omega)]
    by_cases h2 : 29 ≤ b (fr + 1) ∧ b (fr + 1) ≤ 31
    · left; exact ⟨h1, h2.1, h2.2, by rw [nM_hit h2 (by omega)]; omega⟩
    · right
      refine ⟨h1, h2, ?_⟩
      rw [nM_miss h2 (by omega)]
      exact nM_zero rfl
theorem wEnd_d (b : Nat → Nat) (la : Nat) : (b la = 30 ∧ wEnd b la = -1) ∨ (b la ≠ 30 ∧ wEnd b la = (la : Int)) := by
  unfold wEnd; split
  · left; constructor <;> first | assumption | rfl
  · right; constructor <;> first | assumption | rfl
theorem wOth_1 {b : Nat → Nat} {fr la : Nat} (h : nM b fr 2 ≠ -1) : wOth b fr la = nM b fr 2 := by unfold wOth; rw [if_pos h]
theorem wOth_2 {b : Nat → Nat} {fr la : Nat} (h : nM b fr 2 = -1) (h2 : fr + 2 < la ∧ b (fr + 2) ≠ 31) : wOth b fr la = ((fr + 2 : Nat) : Int) := by unfold wOth; rw [if_neg (by omega), if_pos h2]
theorem wOth_3 {b : Nat → Nat} {fr la : Nat} (h : nM b fr 2 = -1) (h2 : ¬ (fr + 2 < la ∧ b (fr + 2) ≠ 31)) {x : Int} (hx : fI (badO b la) (fr + 2) (la - (fr + 2)) = x) (h3 : x ≠ -1) : wOth b fr la = x := by unfold wOth; rw [if_neg (by omega), if_neg h2, if_pos (by omega), hx]
theorem wOth_4 {b : Nat → Nat} {fr la : Nat} (h : nM b fr 2 = -1) (h2 : ¬ (fr + 2 < la ∧ b (fr + 2) ≠ 31)) (hx : fI (badO b la) (fr + 2) (la - (fr + 2)) = -1) : wOth b fr la = wEnd b la := by unfold wOth; rw [if_neg (by omega), if_neg h2, if_neg (by omega)]
theorem wCtl_1 {b : Nat → Nat} {fr la : Nat} (h : nM b fr (la - fr) ≠ -1) : wCtl b fr la = nM b fr (la - fr) := by unfold wCtl; rw [if_pos h]
theorem wCtl_2 {b : Nat → Nat} {fr la : Nat} (h : nM b fr (la - fr) = -1) : wCtl b fr la = wEnd b la := by unfold wCtl; rw [if_neg (by omega)]
theorem bl1 {x : Int32} {P Q : Prop} (h : (x.toInt = 1 ∧ P) ∨ (x.toInt = 0 ∧ Q)) (c : ¬ x.toInt = 0) : P := h.elim (fun a => a.2) (fun a => absurd a.1 c)
theorem bl0 {x : Int32} {P Q : Prop} (h : (x.toInt = 1 ∧ P) ∨ (x.toInt = 0 ∧ Q)) (c : x.toInt = 0) : Q := h.elim (fun a => by omega) (fun a => a.2)
