/-! the form, as a list of bytes -/
def stt (fl : FL) : Nat → Nat
  | 0 => 0
  | n + 1 => stt fl n + ((fB fl n).length + 1)
def cn (fl : FL) : Nat → Bool
  | 0 => true
  | k + 1 => cn fl k && (decide (fT fl k < 10) || (!isM ((fB fl k).getD 0 0) && !isM ((fB fl k).getD 1 0)))
def ldB (lf : Nat → Int32) (k : Nat) : Nat := if k = 10 ∨ k = 11 then 50 else if k = 20 then 52 else if k = 21 then 53 else u8 (lf k)
/-- the leader's first n + 5 places, in the form -/
def ldL (lf : Nat → Int32) (all base : Nat) : Nat → List Nat
  | 0 => dg all 5
  | n + 1 => ldL lf all base n ++ (if n + 5 = 12 then dg base 5 else []) ++ (if n + 5 < 12 ∨ 16 < n + 5 then [ldB lf (n + 5)] else [])
def drN (fl : FL) : Nat → List Nat
  | 0 => []
  | n + 1 => drN fl n ++ dg (fT fl n) 3 ++ dg ((fB fl n).length + 1) 4 ++ dg (stt fl n) 5
def fdN (fl : FL) : Nat → List Nat
  | 0 => []
  | n + 1 => fdN fl n ++ fB fl n ++ [30]
def bas (fl : FL) : Nat := 25 + 12 * fl.length
def alls (fl : FL) : Nat := bas fl + 1 + stt fl fl.length
def frm (lf : Nat → Int32) (fl : FL) : List Nat := ldL lf (alls fl) (bas fl) 19 ++ drN fl fl.length ++ [30] ++ fdN fl fl.length ++ [29]
theorem ldL_len (lf : Nat → Int32) (all base : Nat) : ∀ n, (ldL lf all base n).length ≤ 5 + 6 * n
  | 0 => by simp [ldL, dg_len]
  | n + 1 => by
    have := ldL_len lf all base n
    simp only [ldL, List.length_append]
    have h1 : (if n + 5 < 12 ∨ 16 < n + 5 then [ldB lf (n + 5)] else []).length ≤ 1 := by split <;> simp
    have h2 : (if n + 5 = 12 then dg base 5 else []).length ≤ 5 := by split <;> simp [dg_len]
    omega
theorem ldL_19 (lf : Nat → Int32) (all base : Nat) : (ldL lf all base 19).length = 24 := by simp [ldL, dg_len]
theorem drN_len (fl : FL) : ∀ n, (drN fl n).length = 12 * n
  | 0 => rfl
  | n + 1 => by simp only [drN, List.length_append, drN_len fl n, dg_len]; omega
theorem fdN_len (fl : FL) : ∀ n, (fdN fl n).length = stt fl n
  | 0 => rfl
  | n + 1 => by simp only [fdN, stt, List.length_append, List.length_cons, List.length_nil, fdN_len fl n]; omega
theorem stt_le {fl : FL} (hF : FW fl) : ∀ n, n ≤ fl.length → stt fl n ≤ 1801 * n
  | 0, _ => by simp [stt]
  | n + 1, h => by have := stt_le hF n (by omega); have := (hF.2 n (by omega)).2.2.1; simp only [stt]; omega
theorem stt_mono (fl : FL) : ∀ {m n : Nat}, m ≤ n → stt fl m ≤ stt fl n
  | m, 0, h => by have : m = 0 := by omega
                  subst this; exact Nat.le_refl _
  | m, n + 1, h => by
    by_cases e : m = n + 1
    · subst e; exact Nat.le_refl _
    · have := stt_mono fl (m := m) (n := n) (by omega); simp only [stt]; omega
theorem frm_len (lf : Nat → Int32) (fl : FL) : (frm lf fl).length = alls fl := by
  unfold frm alls bas
  simp [ldL_19, drN_len, fdN_len]; omega
theorem cn_t {fl : FL} {k : Nat} (h : cn fl k = true) (h2 : fT fl k < 10 ∨ (¬ (29 ≤ (fB fl k).getD 0 0 ∧ (fB fl k).getD 0 0 ≤ 31) ∧ ¬ (29 ≤ (fB fl k).getD 1 0 ∧ (fB fl k).getD 1 0 ≤ 31))) : cn fl (k + 1) = true := by
  simp only [cn, h, isM, Bool.true_and, Bool.or_eq_true, decide_eq_true_eq, Bool.and_eq_true, Bool.not_eq_true', decide_eq_false_iff_not]
  exact h2
theorem cn_f {fl : FL} {k : Nat} (h2 : cn fl k = false ∨ (10 ≤ fT fl k ∧ ((29 ≤ (fB fl k).getD 0 0 ∧ (fB fl k).getD 0 0 ≤ 31) ∨ (29 ≤ (fB fl k).getD 1 0 ∧ (fB fl k).getD 1 0 ≤ 31)))) : cn fl (k + 1) = false := by
  rcases h2 with h | ⟨h1, h2⟩
  · simp [cn, h]
  · have e : decide (fT fl k < 10) = false := by simp; omega
    rcases h2 with h2 | h2
    · have : isM ((fB fl k).getD 0 0) = true := by simp only [isM, decide_eq_true_eq]; exact h2
      simp only [cn, e, this]; simp
    · have : isM ((fB fl k).getD 1 0) = true := by simp only [isM, decide_eq_true_eq]; exact h2
      simp only [cn, e, this]; simp
theorem wr_no {fl : FL} {k : Nat} {te n1 : Int32} (h : cn fl fl.length = true) (hk : k = fl.length) (h0 : te.toInt ≠ 0) (h1 : (te.toInt = 0 ∧ n1.toInt = 0) ∨ (te.toInt = 1 ∧ n1.toInt = 1 ∧ cn fl k = true) ∨ (te.toInt = 1 ∧ n1.toInt = 0 ∧ cn fl k = false)) (hn : n1.toInt = 0) : False := by
  subst hk
  rcases h1 with q | q | q
  · exact h0 q.1
  · omega
  · rw [h] at q; exact absurd q.2.2 (by decide)
