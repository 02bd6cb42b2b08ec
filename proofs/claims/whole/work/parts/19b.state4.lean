/-- the last subfield's code, or -1 -/
def lastC (bd : List Nat) : Int := lCn (bd.drop 2) (bd.length - 2)
/-- subfield2 on the fields -/
def sub2 (fl : FL) (x : Int) (code c : Nat) : FL :=
  if ¬ (0 < x ∧ x ≤ (fl.length : Int)) ∨ (29 ≤ c ∧ c ≤ 31) ∨ 1200 ≤ tot fl fl.length then fl else
  if fT fl (x.toNat - 1) ≤ 9 ∨ lastC (fB fl (x.toNat - 1)) = (code : Int) then addB fl (x.toNat - 1) c else
  if (29 ≤ code ∧ code ≤ 31) ∨ 1198 < tot fl fl.length then fl else addB (addB (addB fl (x.toNat - 1) 31) (x.toNat - 1) code) (x.toNat - 1) c
theorem sub2_0 {fl : FL} {x : Int} {code c : Nat} (h : ¬ (0 < x ∧ x ≤ (fl.length : Int)) ∨ (29 ≤ c ∧ c ≤ 31) ∨ 1200 ≤ tot fl fl.length) : sub2 fl x code c = fl := by unfold sub2; rw [if_pos h]
theorem sub2_1 {fl : FL} {x : Int} {code c : Nat} (h : ¬ (¬ (0 < x ∧ x ≤ (fl.length : Int)) ∨ (29 ≤ c ∧ c ≤ 31) ∨ 1200 ≤ tot fl fl.length)) (h2 : fT fl (x.toNat - 1) ≤ 9 ∨ lastC (fB fl (x.toNat - 1)) = (code : Int)) : sub2 fl x code c = addB fl (x.toNat - 1) c := by unfold sub2; rw [if_neg h, if_pos h2]
theorem sub2_2 {fl : FL} {x : Int} {code c : Nat} (h : ¬ (¬ (0 < x ∧ x ≤ (fl.length : Int)) ∨ (29 ≤ c ∧ c ≤ 31) ∨ 1200 ≤ tot fl fl.length)) (h2 : ¬ (fT fl (x.toNat - 1) ≤ 9 ∨ lastC (fB fl (x.toNat - 1)) = (code : Int))) (h3 : (29 ≤ code ∧ code ≤ 31) ∨ 1198 < tot fl fl.length) : sub2 fl x code c = fl := by unfold sub2; rw [if_neg h, if_neg h2, if_pos h3]
theorem sub2_3 {fl : FL} {x : Int} {code c : Nat} (h : ¬ (¬ (0 < x ∧ x ≤ (fl.length : Int)) ∨ (29 ≤ c ∧ c ≤ 31) ∨ 1200 ≤ tot fl fl.length)) (h2 : ¬ (fT fl (x.toNat - 1) ≤ 9 ∨ lastC (fB fl (x.toNat - 1)) = (code : Int))) (h3 : ¬ ((29 ≤ code ∧ code ≤ 31) ∨ 1198 < tot fl fl.length)) : sub2 fl x code c = addB (addB (addB fl (x.toNat - 1) 31) (x.toNat - 1) code) (x.toNat - 1) c := by unfold sub2; rw [if_neg h, if_neg h2, if_neg h3]
theorem lC_in {bd : List Nat} {k : Nat} (hl : k < bd.length) (hk : 2 ≤ k) (hN : (bd.drop 2).getLast? ≠ some 31) (a : bd.getD k 0 = 31) : k + 1 < bd.length := by
  rcases Nat.lt_or_ge (k + 1) bd.length with q | q
  · exact q
  · exfalso
    apply hN
    rw [List.getLast?_eq_getElem?, List.getElem?_drop]
    simp only [List.length_drop]
    rw [show 2 + (bd.length - 2 - 1) = k by omega]
    have : bd.getD k 0 = bd[k] := by simp [List.getD, hl]
    rw [List.getElem?_eq_getElem hl, ← this, a]
theorem lC_step {bd : List Nat} {k : Nat} {y z : Int} (hk : 2 ≤ k) (hl : k < bd.length) (hN : (bd.drop 2).getLast? ≠ some 31) (hy : y = lCn (bd.drop 2) (k - 2)) (hz : (bd.getD k 0 = 31 ∧ z = (bd.getD (k + 1) 0 : Int)) ∨ (bd.getD k 0 ≠ 31 ∧ z = y)) : z = lCn (bd.drop 2) (k + 1 - 2) := by
  rw [show k + 1 - 2 = (k - 2) + 1 by omega]
  simp only [lCn]
  rw [dr_get hk]
  rcases hz with ⟨a, b⟩ | ⟨a, b⟩
  · rw [if_pos a]
    have h1 : k + 1 < bd.length := lC_in hl hk hN a
    rw [show ((k - 2 : Nat) : Int) + 1 = ((k - 1 : Nat) : Int) by omega, gI_in (by simp; omega), b]
    have := dr_get (l := bd) (k := k + 1) (by omega)
    rw [show k + 1 - 2 = k - 1 by omega] at this
    rw [this]
  · rw [if_neg a, b, hy]
theorem addB_Bi {fl : FL} {i c : Nat} (hi : i < fl.length) : fB (addB fl i c) i = fB fl i ++ [c] := by rw [addB_B hi, if_pos rfl]
theorem addB_lt {fl : FL} {i c : Nat} {n : Nat} (hi : i < fl.length) (h : ∀ j, j < fl.length → (fB fl j).length < n) : ∀ j, j < (addB fl i c).length → (fB (addB fl i c) j).length < n + 1 := by
  intro j hj
  rw [addB_len] at hj
  have := h j hj
  have := h i hi
  rw [addB_B hi]
  split
  · simp; omega
  · omega
/-- put on the fields -/
def putF (fl : FL) (tag a b : Nat) : FL := fl ++ [(tag, if tag < 10 then [] else [a, b])]
theorem MF_put {tf sf yf : Nat → Int32} {fl : FL} (h : MF tf sf yf fl) (hl : ∀ j, j < fl.length → (fB fl j).length ≤ 1900) {tag a b : Nat} {x z : Int32} (hx : x.toInt = (tag : Int)) (hz : (tag < 10 ∧ z.toInt = 0) ∨ (10 ≤ tag ∧ z.toInt = 2)) : MF (upd tf fl.length x) (upd sf fl.length z) (upd (upd yf (1900 * fl.length) (sB a)) (1900 * fl.length + 1) (sB b)) (putF fl tag a b) := by
  intro j hj
  simp only [putF, List.length_append, List.length_cons, List.length_nil] at hj
  unfold putF
  rw [fT_app, fB_app]
  by_cases e : j = fl.length
  · subst e
    rw [if_pos rfl, if_pos rfl, upd_s, upd_s]
    refine ⟨hx, ?_, ?_⟩
    · by_cases h9 : tag < 10
      · rw [if_pos h9]; simp; omega
      · rw [if_neg h9]; simp; omega
    · by_cases h9 : tag < 10
      · rw [if_pos h9]; exact Bs_nil _ _
      · rw [if_neg h9]
        intro q hq
        simp only [List.length_cons, List.length_nil] at hq
        rcases (show q = 0 ∨ q = 1 by omega) with rfl | rfl
        · rw [upd_n (by omega)]; exact upd_s _ _ _
        · exact upd_s _ _ _
  · obtain ⟨h1, h2, h3⟩ := h j (by omega)
    have := hl j (by omega)
    rw [if_neg e, if_neg e, upd_n e, upd_n e]
    exact ⟨h1, h2, Bs_out (Bs_out h3 (by omega)) (by omega)⟩
theorem s2_MF {tf sf yf : Nat → Int32} {fl : FL} {i : Nat} {x31 y z z1 z2 z3 : Int32} (h : MF tf sf yf fl) (hi : i < fl.length) (hl : ∀ j, j < fl.length → (fB fl j).length < 1801) (e31 : x31.toInt = 31) (h1 : z1.toInt = (((fB fl i).length + 1 : Nat) : Int)) (h2 : z2.toInt = (((fB fl i).length + 1 + 1 : Nat) : Int)) (h3 : z3.toInt = (((fB fl i).length + 2 + 1 : Nat) : Int)) : MF tf (upd (upd (upd sf i z1) i z2) i z3) (upd (upd (upd yf (1900 * i + (fB fl i).length) (sB (u8 x31))) (1900 * i + ((fB fl i).length + 1)) (sB (u8 y))) (1900 * i + ((fB fl i).length + 2)) (sB (u8 z))) (addB (addB (addB fl i 31) i (u8 y)) i (u8 z)) := by
  have u31 : u8 x31 = 31 := u8_of (n := 31) e31 (by omega)
  rw [u31]
  have a1 := MF_add h hi (c := 31) (fun j hj => by have := hl j hj; omega) h1
  have g1 := addB_lt (c := 31) hi hl
  have l1 : (fB (addB fl i 31) i).length = (fB fl i).length + 1 := by rw [addB_Bi hi]; simp
  have i1 : i < (addB fl i 31).length := by rw [addB_len]; exact hi
  have a2 := MF_add a1 i1 (c := u8 y) (fun j hj => by have := g1 j hj; omega) (z := z2) (by rw [l1]; exact h2)
  have g2 := addB_lt (c := u8 y) i1 g1
  have l2 : (fB (addB (addB fl i 31) i (u8 y)) i).length = (fB fl i).length + 2 := by rw [addB_Bi i1]; simp [l1]
  have i2 : i < (addB (addB fl i 31) i (u8 y)).length := by rw [addB_len]; exact i1
  have a3 := MF_add a2 i2 (c := u8 z) (fun j hj => by have := g2 j hj; omega) (z := z3) (by rw [l2]; exact h3)
  rw [l1, l2] at a3
  exact a3
