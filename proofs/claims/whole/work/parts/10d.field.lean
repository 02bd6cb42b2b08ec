/-! a field's bytes -/
def gI (l : List Nat) (i : Int) : Int := if 0 ≤ i ∧ i < (l.length : Int) then (l.getD i.toNat 0 : Int) else -1
def c31 (l : List Nat) : Nat := l.count 31
theorem c31_snoc (l : List Nat) (c : Nat) : c31 (l ++ [c]) = c31 l + (if c = 31 then 1 else 0) := by
  unfold c31
  rw [List.count_append]
  by_cases h : c = 31 <;> simp [h, List.count_cons]
theorem c31_le (l : List Nat) : c31 l ≤ l.length := List.count_le_length
/-- behind the code of the i-th subfield with that code: from place p on, s of them lie ahead; n places to look at -/
def sIx (bd : List Nat) (code i : Int) : Nat → Nat → Int → Int
  | 0, _, _ => -1
  | n + 1, p, s => if bd.getD p 0 = 31 ∧ (bd.getD (p + 1) 0 : Int) = code then (if s = i then (p : Int) + 2 else sIx bd code i n (p + 1) (s + 1)) else sIx bd code i n (p + 1) s
theorem sIx_no {bd : List Nat} {code i : Int} {n p : Nat} {s : Int} (h : ¬ (bd.getD p 0 = 31 ∧ (bd.getD (p + 1) 0 : Int) = code)) (hn : 0 < n) : sIx bd code i n p s = sIx bd code i (n - 1) (p + 1) s := by
  cases n with
  | zero => omega
  | succ n => simp only [sIx]; rw [if_neg h]; rfl
theorem sIx_go {bd : List Nat} {code i : Int} {n p : Nat} {s : Int} (h : bd.getD p 0 = 31 ∧ (bd.getD (p + 1) 0 : Int) = code) (h2 : s ≠ i) (hn : 0 < n) : sIx bd code i n p s = sIx bd code i (n - 1) (p + 1) (s + 1) := by
  cases n with
  | zero => omega
  | succ n => simp only [sIx]; rw [if_pos h, if_neg h2]; rfl
theorem sIx_yes {bd : List Nat} {code i : Int} {n p : Nat} {s : Int} (h : bd.getD p 0 = 31 ∧ (bd.getD (p + 1) 0 : Int) = code) (h2 : s = i) (hn : 0 < n) : sIx bd code i n p s = (p : Int) + 2 := by
  cases n with
  | zero => omega
  | succ n => simp only [sIx]; rw [if_pos h, if_pos h2]
theorem sIx_zero {bd : List Nat} {code i : Int} {n p : Nat} {s : Int} (hn : n = 0) : sIx bd code i n p s = -1 := by subst hn; rfl
theorem sIx_rng {bd : List Nat} {code i : Int} : ∀ n p s, sIx bd code i n p s = -1 ∨ ((p : Int) + 2 ≤ sIx bd code i n p s ∧ sIx bd code i n p s ≤ (p : Int) + n + 1)
  | 0, _, _ => Or.inl rfl
  | n + 1, p, s => by
    simp only [sIx]
    split
    · split
      · right; omega
      · have := sIx_rng (bd := bd) (code := code) (i := i) n (p + 1) (s + 1); omega
    · have := sIx_rng (bd := bd) (code := code) (i := i) n (p + 1) s; omega
def sEn (bd : List Nat) : Nat → Nat → Nat
  | 0, p => p
  | n + 1, p => if bd.getD p 0 = 31 then p else sEn bd n (p + 1)
theorem sEn_hit {bd : List Nat} {n p : Nat} (h : bd.getD p 0 = 31) (hn : 0 < n) : sEn bd n p = p := by
  cases n with
  | zero => omega
  | succ n => simp only [sEn]; rw [if_pos h]
theorem sEn_miss {bd : List Nat} {n p : Nat} (h : bd.getD p 0 ≠ 31) (hn : 0 < n) : sEn bd n p = sEn bd (n - 1) (p + 1) := by
  cases n with
  | zero => omega
  | succ n => simp only [sEn]; rw [if_neg h]; rfl
theorem sEn_zero {bd : List Nat} {n p : Nat} (hn : n = 0) : sEn bd n p = p := by subst hn; rfl
theorem sEn_rng {bd : List Nat} : ∀ n p, p ≤ sEn bd n p ∧ sEn bd n p ≤ p + n
  | 0, _ => by simp [sEn]
  | n + 1, p => by
    simp only [sEn]
    split
    · omega
    · have := sEn_rng (bd := bd) n (p + 1); omega
/-- the code of the last subfield in the first p places, or -1 -/
def lCn (bd : List Nat) : Nat → Int
  | 0 => -1
  | p + 1 => if bd.getD p 0 = 31 then gI bd ((p : Int) + 1) else lCn bd p
theorem gI_in {l : List Nat} {k : Nat} (h : k < l.length) : gI l (k : Int) = (l.getD k 0 : Int) := by
  unfold gI; rw [if_pos (by omega)]; simp
theorem gI_out {l : List Nat} {i : Int} (h : ¬ (0 ≤ i ∧ i < (l.length : Int))) : gI l i = -1 := by unfold gI; rw [if_neg h]
theorem ap_B {f : Nat → Int32} {bd : List Nat} {x y : Int32} (h : Bs f 0 bd) (e : y = sB (u8 x)) : Bs (upd f (0 + bd.length) (sB (u8 y))) 0 (bd ++ [u8 x]) := by
  rw [e, sB_u8_sB]; exact Bs_snoc h (u8 x)
theorem ap_F {f : Nat → Int32} {k : Nat} {x y : Int32} (h : BF f) (_e : y = sB (u8 x)) : BF (upd f k (sB (u8 y))) := BF_upd h _ _
theorem ap_c {bd : List Nat} {x su u : Int32} (hsu : su.toInt = (c31 bd : Int)) (h1 : ¬ x.toInt = 31 → u.toInt = su.toInt) (h2 : x.toInt = 31 → u.toInt = su.toInt + 1) : (0 ≤ x.toInt ∧ x.toInt < 256) → u.toInt = (c31 (bd ++ [u8 x]) : Int) := by
  intro hx
  have h3 : u8 x = x.toInt.toNat := u8_of (n := x.toInt.toNat) (by omega) (by omega)
  rw [c31_snoc, h3]
  by_cases h : x.toInt = 31
  · rw [if_pos (by omega), h2 h]; omega
  · rw [if_neg (by omega), h1 h]; omega
theorem nb_sB {x y : Int32} {n : Nat} (e : x = y) (h : y = sB n) : narrow .byte (.int x) = .int x := by rw [e, h]; unfold sB; exact pk_nb _
