/-- how the reference holds the present record, or that there is none -/
def MPr (te nf : Int32) (tf sf yf : Nat → Int32) (fl : FL) : Prop := (te.toInt = 1 ∧ nf.toInt = (fl.length : Int) ∧ MF tf sf yf fl) ∨ (te.toInt = 0 ∧ fl = [] ∧ 0 ≤ nf.toInt ∧ nf.toInt ≤ 60)
theorem MPr.te {te nf : Int32} {tf sf yf : Nat → Int32} {fl : FL} (h : MPr te nf tf sf yf fl) : te.toInt = 0 ∨ te.toInt = 1 := h.elim (fun a => Or.inr a.1) (fun a => Or.inl a.1)
theorem MPr.nf {te nf : Int32} {tf sf yf : Nat → Int32} {fl : FL} (h : MPr te nf tf sf yf fl) (hF : FW fl) : 0 ≤ nf.toInt ∧ nf.toInt ≤ 60 := by
  rcases h with ⟨_, h, _⟩ | ⟨_, _, h⟩
  · have := hF.1; omega
  · exact h
theorem MPr.in {te nf : Int32} {tf sf yf : Nat → Int32} {fl : FL} (h : MPr te nf tf sf yf fl) (h1 : te.toInt ≠ 0) : nf.toInt = (fl.length : Int) ∧ MF tf sf yf fl := by
  rcases h with ⟨_, h⟩ | ⟨h, _⟩
  · exact h
  · exact absurd h h1
theorem MPr.no {te nf : Int32} {tf sf yf : Nat → Int32} {fl : FL} (h : MPr te nf tf sf yf fl) (h1 : te.toInt = 0) : fl.length = 0 := by
  rcases h with ⟨h, _⟩ | ⟨_, h, _⟩
  · omega
  · rw [h]; rfl
theorem fT_set {fl : FL} {i j : Nat} {x : Nat × List Nat} (hi : i < fl.length) : fT (fl.set i x) j = if j = i then x.1 else fT fl j := by
  unfold fT
  simp only [List.getD, List.getElem?_set]
  by_cases h : i = j
  · subst h; simp [hi]
  · rw [if_neg h, if_neg (fun e => h e.symm)]
theorem fB_set {fl : FL} {i j : Nat} {x : Nat × List Nat} (hi : i < fl.length) : fB (fl.set i x) j = if j = i then x.2 else fB fl j := by
  unfold fB
  simp only [List.getD, List.getElem?_set]
  by_cases h : i = j
  · subst h; simp [hi]
  · rw [if_neg h, if_neg (fun e => h e.symm)]
theorem fT_app {fl : FL} {j : Nat} {x : Nat × List Nat} : fT (fl ++ [x]) j = if j = fl.length then x.1 else fT fl j := by
  unfold fT
  simp only [List.getD]
  by_cases h : j < fl.length
  · rw [List.getElem?_append_left h, if_neg (by omega)]
  · by_cases e : j = fl.length
    · subst e; simp
    · rw [if_neg e, List.getElem?_append_right (by omega), List.getElem?_eq_none (by simp; omega), List.getElem?_eq_none (by omega)]
theorem fB_app {fl : FL} {j : Nat} {x : Nat × List Nat} : fB (fl ++ [x]) j = if j = fl.length then x.2 else fB fl j := by
  unfold fB
  simp only [List.getD]
  by_cases h : j < fl.length
  · rw [List.getElem?_append_left h, if_neg (by omega)]
  · by_cases e : j = fl.length
    · subst e; simp
    · rw [if_neg e, List.getElem?_append_right (by omega), List.getElem?_eq_none (by simp; omega), List.getElem?_eq_none (by omega)]
/-- a byte more in the i-th field -/
def addB (fl : FL) (i c : Nat) : FL := fl.set i (fT fl i, fB fl i ++ [c])
theorem addB_len (fl : FL) (i c : Nat) : (addB fl i c).length = fl.length := by simp [addB]
theorem addB_T {fl : FL} {i c j : Nat} (hi : i < fl.length) : fT (addB fl i c) j = fT fl j := by
  unfold addB; rw [fT_set hi]; split
  · rename_i h; rw [h]
  · rfl
theorem addB_B {fl : FL} {i c j : Nat} (hi : i < fl.length) : fB (addB fl i c) j = if j = i then fB fl i ++ [c] else fB fl j := by
  unfold addB; rw [fB_set hi]
theorem MF_add {tf sf yf : Nat → Int32} {fl : FL} (h : MF tf sf yf fl) {i c : Nat} (hi : i < fl.length) (hl : ∀ j, j < fl.length → (fB fl j).length < 1900) {z : Int32} (hz : z.toInt = (((fB fl i).length + 1 : Nat) : Int)) : MF tf (upd sf i z) (upd yf (1900 * i + (fB fl i).length) (sB c)) (addB fl i c) := by
  intro j hj
  rw [addB_len] at hj
  rw [addB_T hi, addB_B hi]
  obtain ⟨h1, h2, h3⟩ := h j hj
  refine ⟨h1, ?_, ?_⟩
  · by_cases e : j = i
    · subst e; rw [upd_s, if_pos rfl, hz]; simp
    · rw [upd_n e, if_neg e, h2]
  · by_cases e : j = i
    · subst e; rw [if_pos rfl]; exact Bs_snoc h3 c
    · rw [if_neg e]
      have := hl j hj; have := hl i hi
      refine Bs_out h3 ?_
      rcases Nat.lt_or_ge i j with q | q
      · left; omega
      · right; omega
/-- what of a field counts against the 1,200 -/
def hld (fl : FL) (i : Nat) : Nat := (fB fl i).length - (if fT fl i ≤ 9 then 0 else c31 ((fB fl i).drop 2))
def tot (fl : FL) : Nat → Nat
  | 0 => 0
  | n + 1 => tot fl n + hld fl n
theorem c31_tk {l : List Nat} {k : Nat} (h : k < l.length) : c31 (l.take (k + 1)) = c31 (l.take k) + (if l.getD k 0 = 31 then 1 else 0) := by
  rw [List.take_succ_eq_append_getElem h, c31_snoc]
  simp [List.getD, h]
theorem c31_all (l : List Nat) : c31 (l.take l.length) = c31 l := by rw [List.take_length]
theorem dr_get {l : List Nat} {k : Nat} (h : 2 ≤ k) : (l.drop 2).getD (k - 2) 0 = l.getD k 0 := by
  simp only [List.getD, List.getElem?_drop]
  rw [show 2 + (k - 2) = k by omega]
theorem hld_le {fl : FL} (hF : FW fl) {i : Nat} (hi : i < fl.length) : hld fl i ≤ 1800 := by have := (hF.2 i hi).2.2.1; unfold hld; omega
theorem tot_le {fl : FL} (hF : FW fl) : ∀ n, n ≤ fl.length → tot fl n ≤ 1800 * n
  | 0, _ => by simp [tot]
  | n + 1, h => by have := tot_le hF n (by omega); have := hld_le hF (i := n) (by omega); simp only [tot]; omega
