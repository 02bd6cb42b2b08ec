/-! a record's fields: tag and all bytes (the indicators first, where there are any) -/
abbrev FL : Type := List (Nat × List Nat)
def fT (fl : FL) (i : Nat) : Nat := (fl.getD i (0, [])).1
def fB (fl : FL) (i : Nat) : List Nat := (fl.getD i (0, [])).2
/-- how the reference holds them -/
def MF (tg sy yb : Nat → Int32) (fl : FL) : Prop := ∀ i, i < fl.length → (tg i).toInt = (fT fl i : Int) ∧ (sy i).toInt = ((fB fl i).length : Int) ∧ Bs yb (1900 * i) (fB fl i)
/-- what holds of every record -/
def FW (fl : FL) : Prop := fl.length ≤ 60 ∧ ∀ i, i < fl.length → fT fl i ≤ 999 ∧ B8 (fB fl i) ∧ (fB fl i).length ≤ 1800 ∧ (9 < fT fl i → 2 ≤ (fB fl i).length ∧ ((fB fl i).drop 2).getLast? ≠ some 31) ∧ (fT fl i ≤ 9 → c31 (fB fl i) = 0)
/-- field(tag, i): from the p-th on, s of them with the tag lie ahead -/
def fF (fl : FL) (tag i : Int) : Nat → Nat → Int → Int
  | 0, _, _ => 0
  | n + 1, p, s => if (fT fl p : Int) = tag then (if s = i then (p : Int) + 1 else fF fl tag i n (p + 1) (s + 1)) else fF fl tag i n (p + 1) s
theorem fF_no {fl : FL} {tag i : Int} {n p : Nat} {s : Int} (h : ¬ (fT fl p : Int) = tag) (hn : 0 < n) : fF fl tag i n p s = fF fl tag i (n - 1) (p + 1) s := by
  cases n with
  | zero => omega
  | succ n => simp only [fF]; rw [if_neg h]; rfl
theorem fF_go {fl : FL} {tag i : Int} {n p : Nat} {s : Int} (h : (fT fl p : Int) = tag) (h2 : s ≠ i) (hn : 0 < n) : fF fl tag i n p s = fF fl tag i (n - 1) (p + 1) (s + 1) := by
  cases n with
  | zero => omega
  | succ n => simp only [fF]; rw [if_pos h, if_neg h2]; rfl
theorem fF_yes {fl : FL} {tag i : Int} {n p : Nat} {s : Int} (h : (fT fl p : Int) = tag) (h2 : s = i) (hn : 0 < n) : fF fl tag i n p s = (p : Int) + 1 := by
  cases n with
  | zero => omega
  | succ n => simp only [fF]; rw [if_pos h, if_pos h2]
theorem fF_zero {fl : FL} {tag i : Int} {n p : Nat} {s : Int} (hn : n = 0) : fF fl tag i n p s = 0 := by subst hn; rfl
theorem fF_neg {fl : FL} {tag i : Int} (hi : i < 0) : ∀ (n p : Nat) (s : Int), 0 ≤ s → fF fl tag i n p s = 0
  | 0, _, _, _ => rfl
  | n + 1, p, s, hs => by
    simp only [fF]
    split
    · rw [if_neg (by omega)]; exact fF_neg hi n (p + 1) (s + 1) (by omega)
    · exact fF_neg hi n (p + 1) s hs
def isFreeP (x : Int) : Prop := (5 ≤ x ∧ x ≤ 9) ∨ (17 ≤ x ∧ x ≤ 19) ∨ x = 22 ∨ x = 23
def p10 (j : Nat) : Nat := 10 ^ j
theorem p10_s (j : Nat) : p10 (j + 1) = 10 * p10 j := by unfold p10; rw [Nat.pow_succ]; omega
theorem p10_1 {i : Nat} (h : 1 ≤ i) : p10 (i + 1 - 1) = 10 * p10 (i - 1) := by rw [← p10_s]; congr 1; omega
theorem p10_pos : ∀ j : Nat, 1 ≤ p10 j
  | 0 => by simp [p10]
  | j + 1 => by have := p10_pos j; rw [p10_s]; omega
theorem p10_le {j : Nat} (h : j ≤ 4) : p10 j ≤ 10000 := by
  have := Nat.pow_le_pow_right (n := 10) (by decide) h
  unfold p10; simpa using this
theorem g_dup2 {E : GE} {g : Cf} {cc : ByteArray} {own : String} {ret : Option FieldType} {ws : va_W} {cells slots pc : Nat} {lv : List (Nat × Value)} {st : List Value} (C : Cx E g cc own ret) {v u : Value} (d : decode cc pc = .ok (.dup2, 1)) (hv : v.category = 1) (hu : u.category = 1) (kk : G E g ws cells slots (pc + 1) lv (v :: u :: v :: u :: st)) : G E g ws cells slots pc lv (v :: u :: st) :=
  fun H locs ls hl hP hD hS => lv_dup2_11 C.1 C.2.1 d hv hu (kk H locs ls hl hP hD hS)
theorem sn_div {x z : Int32} {n j : Nat} (hx : x.toInt = (n : Int)) (e : z.toInt = x.toInt / (p10 j : Int)) : z.toInt = ((n / p10 j : Nat) : Int) := by rw [e, hx]; rfl
theorem sn_dig {n j : Nat} {z a c : Int32} (h : z.toInt = ((n / p10 j : Nat) : Int)) (h2 : a.toInt = z.toInt % 10) (h3 : c.toInt = 48 + a.toInt) : u8 c = 48 + n / 10 ^ j % 10 := by
  show u8 c = 48 + n / p10 j % 10
  generalize n / p10 j = q at h
  exact u8_of (by rw [h3, h2, h]; omega) (by omega)
theorem sn_q {q z : Int32} {j : Nat} (hj : 1 ≤ j) (hq : q.toInt = (p10 (j - 1) : Int)) (hz : z.toInt = q.toInt / 10) : (j - 1 = 0 ∧ z.toInt = 0) ∨ (1 ≤ j - 1 ∧ z.toInt = (p10 (j - 1 - 1) : Int)) := by
  obtain ⟨j, rfl⟩ : ∃ i, j = i + 1 := ⟨j - 1, by omega⟩
  simp only [Nat.add_sub_cancel] at *
  cases j with
  | zero => left; refine ⟨rfl, ?_⟩; rw [hz, hq]; rfl
  | succ j =>
    right
    refine ⟨by omega, ?_⟩
    rw [hz, hq, p10_s, Nat.add_sub_cancel]
    omega
theorem sn_hd {n j : Nat} (hj : 1 ≤ j) : dg n j = (48 + n / 10 ^ (j - 1) % 10) :: dg n (j - 1) := by
  obtain ⟨j, rfl⟩ : ∃ i, j = i + 1 := ⟨j - 1, by omega⟩
  rfl
theorem sn_end {n j k : Nat} {ok o : List Nat} (hj : j = 0) (h : ok ++ dg n j = o ++ dg n k) : ok = o ++ dg n k := by
  subst hj; simpa [dg] using h
theorem sn_len {n j k : Nat} {ok o : List Nat} (h : ok ++ dg n j = o ++ dg n k) : ok.length + j = o.length + k := by
  have := congrArg List.length h
  simpa [dg_len] using this
