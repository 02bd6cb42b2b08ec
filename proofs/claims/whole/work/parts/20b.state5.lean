theorem ti_addO {x y : Int32} (hx : 0 ≤ x.toInt) (hy : 0 ≤ y.toInt) : (x.toInt + y.toInt < 2147483648 ∧ (x + y).toInt = x.toInt + y.toInt) ∨ (2147483648 ≤ x.toInt + y.toInt ∧ (x + y).toInt = x.toInt + y.toInt - 4294967296) := by
  have h1 := ti_hi x
  have h2 := ti_hi y
  by_cases h : x.toInt + y.toInt < 2147483648
  · left; exact ⟨h, ti_add (by omega) h⟩
  · right
    refine ⟨by omega, ?_⟩
    rw [Int32.toInt_add, Int.bmod_def]
    have : ((2 ^ 32 : Nat) : Int) = 4294967296 := by decide
    rw [this]
    split <;> omega
theorem g_iaddO {E : GE} {g : Cf} {cc : ByteArray} {own : String} {ret : Option FieldType} {ws : va_W} {cells slots pc : Nat} {lv : List (Nat × Value)} {st : List Value} (C : Cx E g cc own ret) {x y : Int32} (d : decode cc pc = .ok (.iadd, 1)) (hx : 0 ≤ x.toInt) (hy : 0 ≤ y.toInt) (kk : ∀ z : Int32, ((x.toInt + y.toInt < 2147483648 ∧ z.toInt = x.toInt + y.toInt) ∨ (2147483648 ≤ x.toInt + y.toInt ∧ z.toInt = x.toInt + y.toInt - 4294967296)) → G E g ws cells slots (pc + 1) lv (.int z :: st)) : G E g ws cells slots pc lv (.int y :: .int x :: st) :=
  fun H locs ls hl hP hD hS => lv_iadd C.1 C.2.1 d (kk _ (ti_addO hx hy) H locs ls hl hP hD hS)
/-- byte k of the i-th subfield with a code, of a field's bytes behind the indicators -/
def sfB (body : List Nat) (code i k : Int) : Int :=
  if sIx body code i (body.length - 1) 0 0 = -1 ∨ (sEn body (body.length - (sIx body code i (body.length - 1) 0 0).toNat) (sIx body code i (body.length - 1) 0 0).toNat : Int) - sIx body code i (body.length - 1) 0 0 ≤ k then -1 else gI body (sIx body code i (body.length - 1) 0 0 + k)
def sfS (fl : FL) (x i code k : Int) : Int :=
  if ¬ (0 < x ∧ x ≤ (fl.length : Int)) ∨ k < 0 then -1 else
  if fT fl (x.toNat - 1) ≤ 9 then gI (fB fl (x.toNat - 1)) k else sfB ((fB fl (x.toNat - 1)).drop 2) code i k
theorem sfS_0 {fl : FL} {x i code k : Int} (h : ¬ (0 < x ∧ x ≤ (fl.length : Int)) ∨ k < 0) : sfS fl x i code k = -1 := by unfold sfS; rw [if_pos h]
theorem sfS_1 {fl : FL} {x i code k : Int} (h : ¬ (¬ (0 < x ∧ x ≤ (fl.length : Int)) ∨ k < 0)) (h9 : fT fl (x.toNat - 1) ≤ 9) : sfS fl x i code k = gI (fB fl (x.toNat - 1)) k := by unfold sfS; rw [if_neg h, if_pos h9]
theorem sfS_2 {fl : FL} {x i code k : Int} (h : ¬ (¬ (0 < x ∧ x ≤ (fl.length : Int)) ∨ k < 0)) (h9 : 9 < fT fl (x.toNat - 1)) : sfS fl x i code k = sfB ((fB fl (x.toNat - 1)).drop 2) code i k := by unfold sfS; rw [if_neg h, if_neg (by omega)]
theorem sIx_neg {bd : List Nat} {code i : Int} (hi : i < 0) : ∀ (n p : Nat) (s : Int), 0 ≤ s → sIx bd code i n p s = -1
  | 0, _, _, _ => rfl
  | n + 1, p, s, hs => by
    simp only [sIx]
    split
    · rw [if_neg (by omega)]; exact sIx_neg hi n (p + 1) (s + 1) (by omega)
    · exact sIx_neg hi n (p + 1) s hs
theorem sIx_adv {bd : List Nat} {code i : Int} {n p : Nat} {s : Int} (h : ¬ (bd.getD p 0 = 31 ∧ (bd.getD (p + 1) 0 : Int) = code) ∨ n = 0) : sIx bd code i n p s = sIx bd code i (n - 1) (p + 1) s := by
  by_cases hn : n = 0
  · rw [sIx_zero hn, sIx_zero (by omega)]
  · exact sIx_no (h.resolve_right hn) (by omega)
theorem sfB_no {body : List Nat} {code i k : Int} (h : sIx body code i (body.length - 1) 0 0 = -1) : sfB body code i k = -1 := by unfold sfB; rw [if_pos (Or.inl h)]
/-- the subfield begins at st, its end is as en says -/
theorem sfB_at {body : List Nat} {code i k : Int} {st : Nat} (h : sIx body code i (body.length - 1) 0 0 = (st : Int)) {q : Nat} (hen : sEn body (body.length - st) st = sEn body (body.length - q) q) (hq : st ≤ q) (hqk : (q : Int) = (st : Int) + k) (hl : q < body.length) (h31 : body.getD q 0 ≠ 31) : sfB body code i k = (body.getD q 0 : Int) := by
  unfold sfB
  rw [h, Int.toNat_natCast, hen, sEn_miss h31 (by omega)]
  have := sEn_rng (bd := body) (body.length - q - 1) (q + 1)
  rw [if_neg (by omega), ← hqk, gI_in hl]
theorem sfB_out {body : List Nat} {code i k : Int} {st : Nat} (h : sIx body code i (body.length - 1) 0 0 = (st : Int)) {q : Nat} (hen : sEn body (body.length - st) st = sEn body (body.length - q) q) (hqk : (q : Int) ≤ (st : Int) + k) (hl : body.length ≤ q ∨ body.getD q 0 = 31) : sfB body code i k = -1 := by
  unfold sfB
  rw [h, Int.toNat_natCast, hen]
  have e : sEn body (body.length - q) q = q := by
    by_cases hz : body.length ≤ q
    · exact sEn_zero (by omega)
    · exact sEn_hit (hl.resolve_left hz) (by omega)
  rw [e, if_pos (by omega)]
theorem sf_d1 {l : List Nat} {p : Nat} (h : 2 ≤ p) : (l.drop 2).getD (p - 2 + 1) 0 = l.getD (p + 1) 0 := by
  have := dr_get (l := l) (k := p + 1) (by omega)
  rw [show p + 1 - 2 = p - 2 + 1 by omega] at this
  exact this
theorem pt_M {te z z2 x y x79 x80 x97 : Int32} {tf sf yf : Nat → Int32} {fl : FL} (h : MF tf sf yf fl) (hl : ∀ j, j < fl.length → (fB fl j).length ≤ 1900) (hte : te.toInt = 1) (hx : 0 ≤ x.toInt) (hz : (x.toInt < 10 ∧ z.toInt = 0) ∨ (10 ≤ x.toInt ∧ z.toInt = 2)) (hn : z2.toInt = ((fl.length + 1 : Nat) : Int)) (e79 : x79 = sh8 y) (e80 : x80 = sB (u8 x79)) (e97 : x97 = sB (u8 y)) : MPr te z2 (upd tf fl.length x) (upd sf fl.length z) (upd (upd yf (1900 * fl.length) (sB (u8 x80))) (1900 * fl.length + 1) (sB (u8 x97))) (putF fl x.toInt.toNat (u8 (sh8 y)) (u8 y)) := by
  rw [e80, e97, e79, sB_u8_sB, sB_u8_sB]
  refine Or.inl ⟨hte, ?_, MF_put h hl (by omega) (by omega)⟩
  rw [hn]; simp [putF]
theorem sfB_big {body : List Nat} {code i k : Int} (h : (body.length : Int) ≤ k) : sfB body code i k = -1 := by
  unfold sfB
  have hr := sIx_rng (bd := body) (code := code) (i := i) (body.length - 1) 0 0
  by_cases h1 : sIx body code i (body.length - 1) 0 0 = -1
  · rw [if_pos (Or.inl h1)]
  · have := sEn_rng (bd := body) (body.length - (sIx body code i (body.length - 1) 0 0).toNat) (sIx body code i (body.length - 1) 0 0).toNat
    rw [if_pos (Or.inr (by omega))]
