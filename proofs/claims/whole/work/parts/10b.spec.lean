/-! WHAT IS WRONG IN A RECORD, as numbers: -1 where nothing is -/
def isD (x : Nat) : Bool := decide (48 ≤ x ∧ x ≤ 57)
def isM (x : Nat) : Bool := decide (29 ≤ x ∧ x ≤ 31)
/-- the first place of n from fr on of which P holds, or -1 -/
def fI (P : Nat → Bool) : Nat → Nat → Int
  | _, 0 => -1
  | fr, n + 1 => if P fr then (fr : Int) else fI P (fr + 1) n
theorem fI_hit {P : Nat → Bool} {fr n : Nat} (h : P fr = true) (hn : 0 < n) : fI P fr n = (fr : Int) := by
  cases n with
  | zero => omega
  | succ n => simp [fI, h]
theorem fI_miss {P : Nat → Bool} {fr n : Nat} (h : P fr = false) (hn : 0 < n) : fI P fr n = fI P (fr + 1) (n - 1) := by
  cases n with
  | zero => omega
  | succ n => simp [fI, h]
theorem fI_zero {P : Nat → Bool} {fr n : Nat} (hn : n = 0) : fI P fr n = -1 := by subst hn; rfl
theorem fI_rng (P : Nat → Bool) : ∀ n fr, fI P fr n = -1 ∨ ((fr : Int) ≤ fI P fr n ∧ fI P fr n < ((fr + n : Nat) : Int))
  | 0, _ => Or.inl rfl
  | n + 1, fr => by
    simp only [fI]
    split
    · right; omega
    · rcases fI_rng P n (fr + 1) with h | h
      · left; exact h
      · right; omega
theorem fI_none {P : Nat → Bool} : ∀ {n fr : Nat}, fI P fr n = -1 → ∀ j, fr ≤ j → j < fr + n → P j = false
  | 0, _, _, j, h1, h2 => by omega
  | n + 1, fr, h, j, h1, h2 => by
    simp only [fI] at h
    split at h
    · omega
    · rename_i hp
      by_cases hj : j = fr
      · subst hj; simpa using hp
      · exact fI_none h j (by omega) (by omega)
abbrev nD (b : Nat → Nat) (fr n : Nat) : Int := fI (fun j => !isD (b j)) fr n
abbrev nM (b : Nat → Nat) (fr n : Nat) : Int := fI (fun j => isM (b j)) fr n
theorem nD_hit {b : Nat → Nat} {fr n : Nat} (h : ¬ (48 ≤ b fr ∧ b fr ≤ 57)) (hn : 0 < n) : nD b fr n = (fr : Int) := fI_hit (by simp [isD]; omega) hn
theorem nD_miss {b : Nat → Nat} {fr n : Nat} (h : 48 ≤ b fr ∧ b fr ≤ 57) (hn : 0 < n) : nD b fr n = nD b (fr + 1) (n - 1) := fI_miss (by simp [isD]; omega) hn
theorem nM_hit {b : Nat → Nat} {fr n : Nat} (h : 29 ≤ b fr ∧ b fr ≤ 31) (hn : 0 < n) : nM b fr n = (fr : Int) := fI_hit (by simp [isM]; omega) hn
theorem nM_miss {b : Nat → Nat} {fr n : Nat} (h : ¬ (29 ≤ b fr ∧ b fr ≤ 31)) (hn : 0 < n) : nM b fr n = nM b (fr + 1) (n - 1) := fI_miss (by simp [isM]; omega) hn
theorem nD_dig {b : Nat → Nat} {fr n : Nat} (h : nD b fr n = -1) (j : Nat) (h1 : fr ≤ j) (h2 : j < fr + n) : 48 ≤ b j ∧ b j ≤ 57 := by
  have := fI_none h j h1 h2
  simp [isD] at this
  exact this
theorem num3 {b : Nat → Nat} {fr : Nat} (h : ∀ j, fr ≤ j → j < fr + 3 → 48 ≤ b j ∧ b j ≤ 57) : 0 ≤ numI b fr 3 ∧ numI b fr 3 ≤ 999 := by
  have := h fr (by omega) (by omega); have := h (fr + 1) (by omega) (by omega); have := h (fr + 2) (by omega) (by omega)
  simp only [numI, Nat.add_zero]; omega
theorem num4 {b : Nat → Nat} {fr : Nat} (h : ∀ j, fr ≤ j → j < fr + 4 → 48 ≤ b j ∧ b j ≤ 57) : 0 ≤ numI b fr 4 ∧ numI b fr 4 ≤ 9999 := by
  have := h fr (by omega) (by omega); have := h (fr + 1) (by omega) (by omega); have := h (fr + 2) (by omega) (by omega); have := h (fr + 3) (by omega) (by omega)
  simp only [numI, Nat.add_zero]; omega
theorem num5 {b : Nat → Nat} {fr : Nat} (h : ∀ j, fr ≤ j → j < fr + 5 → 48 ≤ b j ∧ b j ≤ 57) : 0 ≤ numI b fr 5 ∧ numI b fr 5 ≤ 99999 := by
  have := h fr (by omega) (by omega); have := h (fr + 1) (by omega) (by omega); have := h (fr + 2) (by omega) (by omega); have := h (fr + 3) (by omega) (by omega); have := h (fr + 4) (by omega) (by omega)
  simp only [numI, Nat.add_zero]; omega
def wTot (b : Nat → Nat) : Int := if nD b 0 5 ≠ -1 then nD b 0 5 else if numI b 0 5 < 26 then 0 else -1
def wEnd (b : Nat → Nat) (last : Nat) : Int := if b last = 30 then -1 else (last : Int)
def wCtl (b : Nat → Nat) (fr last : Nat) : Int := if nM b fr (last - fr) ≠ -1 then nM b fr (last - fr) else wEnd b last
def badO (b : Nat → Nat) (last p : Nat) : Bool := isM (b p) && (b p != 31 || b (p - 1) == 31 || p + 1 == last)
theorem fO_hit {b : Nat → Nat} {last fr n : Nat} (h : 29 ≤ b fr ∧ b fr ≤ 31) (h2 : b fr ≠ 31 ∨ b (fr - 1) = 31 ∨ fr + 1 = last) (hn : 0 < n) : fI (badO b last) fr n = (fr : Int) := fI_hit (by simp [badO, isM]; omega) hn
theorem fO_miss {b : Nat → Nat} {last fr n : Nat} (h : ¬ (29 ≤ b fr ∧ b fr ≤ 31) ∨ ¬ (b fr ≠ 31 ∨ b (fr - 1) = 31 ∨ fr + 1 = last)) (hn : 0 < n) : fI (badO b last) fr n = fI (badO b last) (fr + 1) (n - 1) := fI_miss (by simp [badO, isM]; omega) hn
def wOth (b : Nat → Nat) (fr last : Nat) : Int := if nM b fr 2 ≠ -1 then nM b fr 2 else if fr + 2 < last ∧ b (fr + 2) ≠ 31 then ((fr + 2 : Nat) : Int) else if fI (badO b last) (fr + 2) (last - (fr + 2)) ≠ -1 then fI (badO b last) (fr + 2) (last - (fr + 2)) else wEnd b last
def wFix (b : Nat → Nat) : Int := if b 10 ≠ 50 then 10 else if b 11 ≠ 50 then 11 else if b 20 ≠ 52 then 20 else if b 21 ≠ 53 then 21 else -1
def wLead (b : Nat → Nat) (all : Nat) : Int := if wFix b ≠ -1 then wFix b else if nD b 12 5 ≠ -1 then nD b 12 5 else if 25 ≤ numI b 12 5 ∧ numI b 12 5 ≤ (all : Int) - 1 ∧ (numI b 12 5 - 25) % 12 = 0 then -1 else 12
def wRow (b : Nat → Nat) (row base all : Nat) : Int := if nD b row 12 ≠ -1 then nD b row 12 else
  if numI b (row + 3) 4 < 1 ∨ (9 < numI b row 3 ∧ numI b (row + 3) 4 < 3) ∨ (base : Int) + numI b (row + 7) 5 + numI b (row + 3) 4 > (all : Int) - 1 then ((row + 3 : Nat) : Int) else
  if numI b row 3 ≤ 9 then wCtl b (base + (numI b (row + 7) 5).toNat) (base + (numI b (row + 7) 5).toNat + (numI b (row + 3) 4).toNat - 1) else wOth b (base + (numI b (row + 7) 5).toNat) (base + (numI b (row + 7) 5).toNat + (numI b (row + 3) 4).toNat - 1)
def fRow (b : Nat → Nat) (base all : Nat) : Nat → Nat → Int
  | _, 0 => -1
  | r, n + 1 => if wRow b (24 + 12 * r) base all ≠ -1 then wRow b (24 + 12 * r) base all else fRow b base all (r + 1) n
theorem fRow_hit {b : Nat → Nat} {base all r n : Nat} (h : wRow b (24 + 12 * r) base all ≠ -1) (hn : 0 < n) : fRow b base all r n = wRow b (24 + 12 * r) base all := by
  cases n with
  | zero => omega
  | succ n => simp [fRow, h]
theorem fRow_miss {b : Nat → Nat} {base all r n : Nat} (h : wRow b (24 + 12 * r) base all = -1) (hn : 0 < n) : fRow b base all r n = fRow b base all (r + 1) (n - 1) := by
  cases n with
  | zero => omega
  | succ n => simp [fRow, h]
theorem fRow_zero {b : Nat → Nat} {base all r n : Nat} (hn : n = 0) : fRow b base all r n = -1 := by subst hn; rfl
def wRec (b : Nat → Nat) (all : Nat) : Int := if wLead b all ≠ -1 then wLead b all else
  if b ((numI b 12 5).toNat - 1) ≠ 30 then numI b 12 5 - 1 else if b (all - 1) ≠ 29 then (all : Int) - 1 else if 60 < (numI b 12 5 - 25) / 12 then 24 else
  fRow b (numI b 12 5).toNat all 0 ((numI b 12 5 - 25) / 12).toNat
theorem wFix_rng (b : Nat → Nat) : wFix b = -1 ∨ (10 ≤ wFix b ∧ wFix b ≤ 21) := by unfold wFix; (repeat' split) <;> omega
theorem wLead_ok {b : Nat → Nat} {all : Nat} (h : wLead b all = -1) : nD b 12 5 = -1 ∧ 25 ≤ numI b 12 5 ∧ numI b 12 5 ≤ (all : Int) - 1 ∧ (numI b 12 5 - 25) % 12 = 0 := by
  unfold wLead at h
  have := wFix_rng b
  split at h
  · omega
  · split at h
    · omega
    · split at h
      · rename_i h2 h3
        exact ⟨by omega, h3⟩
      · omega
theorem nD_zero {b : Nat → Nat} {fr n : Nat} (hn : n = 0) : nD b fr n = -1 := fI_zero hn
theorem nM_zero {b : Nat → Nat} {fr n : Nat} (hn : n = 0) : nM b fr n = -1 := fI_zero hn
theorem rowstep {b : Nat → Nat} {base all k n : Nat} {x y : Int} (hx : x = -1 ∧ fRow b base all 0 n = fRow b base all k (n - k) ∨ x ≠ -1 ∧ x = fRow b base all 0 n) (hx1 : x = -1) (hk : k < n) (hy : y = wRow b (24 + 12 * k) base all) : (y = -1 ∧ fRow b base all 0 n = fRow b base all (k + 1) (n - (k + 1))) ∨ (y ≠ -1 ∧ y = fRow b base all 0 n) := by
  rcases hx with ⟨_, h⟩ | ⟨h, _⟩
  · by_cases hy1 : y = -1
    · left
      refine ⟨hy1, ?_⟩
      rw [h, fRow_miss (by omega) (by omega), show n - k - 1 = n - (k + 1) by omega]
    · right
      refine ⟨hy1, ?_⟩
      rw [h, fRow_hit (by omega) (by omega), hy]
  · exact absurd hx1 h
theorem rowend {b : Nat → Nat} {base all k n : Nat} {x : Int} (h : x ≠ -1 ∨ n ≤ k) (hx : x = -1 ∧ fRow b base all 0 n = fRow b base all k (n - k) ∨ x ≠ -1 ∧ x = fRow b base all 0 n) : x = fRow b base all 0 n := by
  rcases hx with ⟨h1, h2⟩ | ⟨_, h2⟩
  · rw [h1, h2, fRow_zero (by omega)]
  · exact h2
