/-! read, as a whole: b the bytes from the place on, S bytes in all, P the place -/
def rdA (b : Nat → Nat) : Nat := (numI b 0 5).toNat
def rdK (b : Nat → Nat) (S P : Nat) : Nat := if S - P < 24 then 0 else if wTot b ≠ -1 then 1 else if S - P < rdA b then 0 else if wRec b (rdA b) ≠ -1 then 1 else 2
def rdR (b : Nat → Nat) (S P : Nat) : Int := if S - P < 24 then 0 else if wTot b ≠ -1 then -1 - wTot b else if S - P < rdA b then 0 else if wRec b (rdA b) ≠ -1 then -1 - wRec b (rdA b) else 1
def rdP (b : Nat → Nat) (S P : Nat) : Nat := if S - P < 24 then P else if wTot b ≠ -1 then S else if S - P < rdA b then P else if wRec b (rdA b) ≠ -1 then (if wRec b (rdA b) = (rdA b : Int) - 1 then S else P + rdA b) else P + rdA b
theorem rd_0 {b : Nat → Nat} {S P : Nat} (h : S - P < 24) : rdK b S P = 0 ∧ rdR b S P = 0 ∧ rdP b S P = P := by unfold rdK rdR rdP; rw [if_pos h, if_pos h, if_pos h]; exact ⟨rfl, rfl, rfl⟩
theorem rd_1 {b : Nat → Nat} {S P : Nat} (h : ¬ S - P < 24) (h1 : wTot b ≠ -1) : rdK b S P = 1 ∧ rdR b S P = -1 - wTot b ∧ rdP b S P = S := by unfold rdK rdR rdP; rw [if_neg h, if_neg h, if_neg h, if_pos h1, if_pos h1, if_pos h1]; exact ⟨rfl, rfl, rfl⟩
theorem rd_2 {b : Nat → Nat} {S P : Nat} (h : ¬ S - P < 24) (h1 : wTot b = -1) (h2 : S - P < rdA b) : rdK b S P = 0 ∧ rdR b S P = 0 ∧ rdP b S P = P := by have n1 : ¬ (wTot b ≠ -1) := fun q => q h1; refine ⟨?_, ?_, ?_⟩; (unfold rdK; rw [if_neg h, if_neg n1, if_pos h2]); (unfold rdR; rw [if_neg h, if_neg n1, if_pos h2]); (unfold rdP; rw [if_neg h, if_neg n1, if_pos h2])
theorem rd_3 {b : Nat → Nat} {S P : Nat} (h : ¬ S - P < 24) (h1 : wTot b = -1) (h2 : ¬ S - P < rdA b) (h3 : wRec b (rdA b) ≠ -1) : rdK b S P = 1 ∧ rdR b S P = -1 - wRec b (rdA b) ∧ rdP b S P = (if wRec b (rdA b) = (rdA b : Int) - 1 then S else P + rdA b) := by have n1 : ¬ (wTot b ≠ -1) := fun q => q h1; refine ⟨?_, ?_, ?_⟩; (unfold rdK; rw [if_neg h, if_neg n1, if_neg h2, if_pos h3]); (unfold rdR; rw [if_neg h, if_neg n1, if_neg h2, if_pos h3]); (unfold rdP; rw [if_neg h, if_neg n1, if_neg h2, if_pos h3])
theorem rd_4 {b : Nat → Nat} {S P : Nat} (h : ¬ S - P < 24) (h1 : wTot b = -1) (h2 : ¬ S - P < rdA b) (h3 : wRec b (rdA b) = -1) : rdK b S P = 2 ∧ rdR b S P = 1 ∧ rdP b S P = P + rdA b := by have n1 : ¬ (wTot b ≠ -1) := fun q => q h1; have n3 : ¬ (wRec b (rdA b) ≠ -1) := fun q => q h3; refine ⟨?_, ?_, ?_⟩; (unfold rdK; rw [if_neg h, if_neg n1, if_neg h2, if_neg n3]); (unfold rdR; rw [if_neg h, if_neg n1, if_neg h2, if_neg n3]); (unfold rdP; rw [if_neg h, if_neg n1, if_neg h2, if_neg n3])
theorem wTot_a {b : Nat → Nat} (h : nD b 0 5 ≠ -1) : wTot b = nD b 0 5 := by unfold wTot; rw [if_pos h]
theorem wTot_b {b : Nat → Nat} (h : nD b 0 5 = -1) (h2 : numI b 0 5 < 26) : wTot b = 0 := by unfold wTot; rw [if_neg (by omega), if_pos h2]
theorem wTot_c {b : Nat → Nat} (h : nD b 0 5 = -1) (h2 : ¬ numI b 0 5 < 26) : wTot b = -1 := by unfold wTot; rw [if_neg (by omega), if_neg h2]
theorem RW_ext {b : Nat → Nat} {f g : Nat → Int32} {k : Nat} (h : RW b f k) (e : ∀ j, j < 3 * k → g j = f j) : RW b g k := by
  intro i hi
  rw [e (3 * i) (by omega), e (3 * i + 1) (by omega), e (3 * i + 2) (by omega)]
  exact h i hi
theorem nD_rng (b : Nat → Nat) (fr n : Nat) : nD b fr n = -1 ∨ ((fr : Int) ≤ nD b fr n ∧ nD b fr n < ((fr + n : Nat) : Int)) := fI_rng _ n fr
theorem nM_rng (b : Nat → Nat) (fr n : Nat) : nM b fr n = -1 ∨ ((fr : Int) ≤ nM b fr n ∧ nM b fr n < ((fr + n : Nat) : Int)) := fI_rng _ n fr
theorem wEnd_rng (b : Nat → Nat) (la : Nat) : wEnd b la = -1 ∨ wEnd b la = (la : Int) := by have := wEnd_d b la; omega
theorem wCtl_rng {b : Nat → Nat} {fr la : Nat} (h : fr ≤ la) : wCtl b fr la = -1 ∨ (0 ≤ wCtl b fr la ∧ wCtl b fr la ≤ (la : Int)) := by
  have h1 := nM_rng b fr (la - fr)
  have h2 := wEnd_rng b la
  unfold wCtl; split <;> omega
theorem wOth_rng {b : Nat → Nat} {fr la : Nat} (h : fr + 2 ≤ la) : wOth b fr la = -1 ∨ (0 ≤ wOth b fr la ∧ wOth b fr la ≤ (la : Int)) := by
  have h1 := nM_rng b fr 2
  have h2 := wEnd_rng b la
  have h3 := fI_rng (badO b la) (la - (fr + 2)) (fr + 2)
  unfold wOth; (repeat' split) <;> omega
theorem wRow_rng {b : Nat → Nat} {row base all : Nat} (hal : all ≤ 2000) (hb : base ≤ 2000) (hr : row ≤ 2000) : wRow b row base all = -1 ∨ (0 ≤ wRow b row base all ∧ wRow b row base all ≤ 5000) := by
  have h0 := nD_rng b row 12
  by_cases hnd : nD b row 12 = -1
  · have hd := nD_dig hnd
    have h3 := num3 (b := b) (fr := row) (fun j h1 h2 => hd j (by omega) (by omega))
    have h4 := num4 (b := b) (fr := row + 3) (fun j h1 h2 => hd j (by omega) (by omega))
    have h5 := num5 (b := b) (fr := row + 7) (fun j h1 h2 => hd j (by omega) (by omega))
    by_cases h2 : numI b (row + 3) 4 < 1 ∨ (9 < numI b row 3 ∧ numI b (row + 3) 4 < 3) ∨ (base : Int) + numI b (row + 7) 5 + numI b (row + 3) 4 > (all : Int) - 1
    · rw [wRow_2 hnd h2]; omega
    · by_cases h9 : numI b row 3 ≤ 9
      · rw [wRow_3 hnd h2 h9]
        have := wCtl_rng (b := b) (fr := base + (numI b (row + 7) 5).toNat) (la := base + (numI b (row + 7) 5).toNat + (numI b (row + 3) 4).toNat - 1) (by omega)
        omega
      · rw [wRow_4 hnd h2 (by omega)]
        have := wOth_rng (b := b) (fr := base + (numI b (row + 7) 5).toNat) (la := base + (numI b (row + 7) 5).toNat + (numI b (row + 3) 4).toNat - 1) (by omega)
        omega
  · rw [wRow_1 hnd]; omega
theorem fRow_rng {b : Nat → Nat} {base all : Nat} (hal : all ≤ 2000) (hb : base ≤ 2000) : ∀ n r, r + n ≤ 100 → fRow b base all r n = -1 ∨ (0 ≤ fRow b base all r n ∧ fRow b base all r n ≤ 5000)
  | 0, _, _ => Or.inl rfl
  | n + 1, r, h => by
    simp only [fRow]
    have := wRow_rng (b := b) (row := 24 + 12 * r) (base := base) (all := all) hal hb (by omega)
    split
    · omega
    · exact fRow_rng hal hb n (r + 1) (by omega)
theorem fRow_rng_rec {b : Nat → Nat} (hb8 : ∀ j, b j < 256) (all : Nat) (h : 26 ≤ all ∧ all ≤ 2000) : wRec b all = -1 ∨ (0 ≤ wRec b all ∧ wRec b all ≤ 5000) := by
  have h0 := nD_rng b 12 5
  have h1 := wFix_rng b
  by_cases q1 : wFix b = -1
  · by_cases q2 : nD b 12 5 = -1
    · by_cases q3 : wHd b all (numI b 12 5) = -1
      · rw [wRec_d h.1 q1 q2 q3]
        have := wHd_ok h.1 q3
        exact fRow_rng h.2 (by omega) _ _ (by omega)
      · rw [wRec_c h.1 q1 q2 q3]
        right
        unfold wHd at q3 ⊢
        (repeat' split at q3) <;> (repeat' split) <;> omega
    · rw [wRec_b h.1 q1 q2]; omega
  · rw [wRec_a h.1 q1]; omega
