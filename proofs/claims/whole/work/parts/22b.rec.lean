/-! what a right record gives -/
def sl (b : Nat → Nat) (o : Nat) : Nat → List Nat
  | 0 => []
  | n + 1 => sl b o n ++ [b (o + n)]
theorem sl_len (b : Nat → Nat) (o : Nat) : ∀ n, (sl b o n).length = n
  | 0 => rfl
  | n + 1 => by simp [sl, sl_len b o n]
theorem sl_get {b : Nat → Nat} {o : Nat} : ∀ {n j : Nat}, j < n → (sl b o n).getD j 0 = b (o + j)
  | 0, j, h => by omega
  | n + 1, j, h => by
    simp only [sl]
    by_cases e : j = n
    · subst e; rw [gd_r (by rw [sl_len]; exact Nat.le_refl _), sl_len]; simp
    · rw [gd_l (by rw [sl_len]; omega)]; exact sl_get (by omega)
theorem sl_B8 {b : Nat → Nat} (hb : ∀ j, b j < 256) (o : Nat) : ∀ n, B8 (sl b o n)
  | 0 => B8_nil
  | n + 1 => B8_snoc (sl_B8 hb o n) (hb _)
def rTag (b : Nat → Nat) (r : Nat) : Nat := (numI b (24 + 12 * r) 3).toNat
def rLen (b : Nat → Nat) (r : Nat) : Nat := (numI b (24 + 12 * r + 3) 4).toNat
def rSt (b : Nat → Nat) (r : Nat) : Nat := (numI b (24 + 12 * r + 7) 5).toNat
def rBase (b : Nat → Nat) : Nat := (numI b 12 5).toNat
def rCnt (b : Nat → Nat) : Nat := ((numI b 12 5 - 25) / 12).toNat
/-- the first r fields that a record tells -/
def rdF (b : Nat → Nat) : Nat → FL
  | 0 => []
  | r + 1 => rdF b r ++ [(rTag b r, sl b (rBase b + rSt b r) (rLen b r - 1))]
theorem rdF_len (b : Nat → Nat) : ∀ r, (rdF b r).length = r
  | 0 => rfl
  | r + 1 => by simp [rdF, rdF_len b r]
theorem rdF_T {b : Nat → Nat} : ∀ {n i : Nat}, i < n → fT (rdF b n) i = rTag b i
  | 0, _, h => by omega
  | n + 1, i, h => by
    simp only [rdF]
    rw [fT_app, rdF_len]
    by_cases e : i = n
    · subst e; rw [if_pos rfl]
    · rw [if_neg e]; exact rdF_T (by omega)
theorem rdF_B {b : Nat → Nat} : ∀ {n i : Nat}, i < n → fB (rdF b n) i = sl b (rBase b + rSt b i) (rLen b i - 1)
  | 0, _, h => by omega
  | n + 1, i, h => by
    simp only [rdF]
    rw [fB_app, rdF_len]
    by_cases e : i = n
    · subst e; rw [if_pos rfl]
    · rw [if_neg e]; exact rdF_B (by omega)
theorem wRow_ok {b : Nat → Nat} {row base all : Nat} (h : wRow b row base all = -1) : (0 ≤ numI b row 3 ∧ numI b row 3 ≤ 999) ∧ (1 ≤ numI b (row + 3) 4 ∧ numI b (row + 3) 4 ≤ 9999) ∧ (0 ≤ numI b (row + 7) 5 ∧ numI b (row + 7) 5 ≤ 99999) ∧ (base : Int) + numI b (row + 7) 5 + numI b (row + 3) 4 ≤ (all : Int) - 1 ∧ (9 < numI b row 3 → 3 ≤ numI b (row + 3) 4) := by
  have hnd : nD b row 12 = -1 := by
    by_cases h1 : nD b row 12 = -1
    · exact h1
    · rw [wRow_1 h1] at h; exact h
  have hd := nD_dig hnd
  have h3 := num3 (b := b) (fr := row) (fun j h1 h2 => hd j (by omega) (by omega))
  have h4 := num4 (b := b) (fr := row + 3) (fun j h1 h2 => hd j (by omega) (by omega))
  have h5 := num5 (b := b) (fr := row + 7) (fun j h1 h2 => hd j (by omega) (by omega))
  by_cases h2 : numI b (row + 3) 4 < 1 ∨ (9 < numI b row 3 ∧ numI b (row + 3) 4 < 3) ∨ (base : Int) + numI b (row + 7) 5 + numI b (row + 3) 4 > (all : Int) - 1
  · rw [wRow_2 hnd h2] at h; omega
  · omega
theorem wRec_ok {b : Nat → Nat} {all : Nat} (h26 : 26 ≤ all) (h : wRec b all = -1) : nD b 12 5 = -1 ∧ (25 ≤ numI b 12 5 ∧ numI b 12 5 ≤ (all : Int) - 1 ∧ (numI b 12 5 - 25) % 12 = 0 ∧ (numI b 12 5 - 25) / 12 ≤ 60) ∧ ∀ r, r < rCnt b → wRow b (24 + 12 * r) (rBase b) all = -1 := by
  have h1 : wFix b = -1 := by
    by_cases q : wFix b = -1
    · exact q
    · rw [wRec_a h26 q] at h; exact h
  have h2 : nD b 12 5 = -1 := by
    by_cases q : nD b 12 5 = -1
    · exact q
    · rw [wRec_b h26 h1 q] at h; exact h
  have h3 : wHd b all (numI b 12 5) = -1 := by
    by_cases q : wHd b all (numI b 12 5) = -1
    · exact q
    · rw [wRec_c h26 h1 h2 q] at h; exact h
  rw [wRec_d h26 h1 h2 h3] at h
  exact ⟨h2, wHd_ok h26 h3, fun r hr => fRow_ok h r (by omega) (by unfold rCnt at hr; omega)⟩
theorem MF_snoc {tf sf yf : Nat → Int32} {fl : FL} (h : MF tf sf yf fl) {tag : Nat} {bd : List Nat} (h1 : (tf fl.length).toInt = (tag : Int)) (h2 : (sf fl.length).toInt = (bd.length : Int)) (h3 : Bs yf (1900 * fl.length) bd) : MF tf sf yf (fl ++ [(tag, bd)]) := by
  intro j hj
  simp only [List.length_append, List.length_cons, List.length_nil] at hj
  rw [fT_app, fB_app]
  by_cases e : j = fl.length
  · subst e; rw [if_pos rfl, if_pos rfl]; exact ⟨h1, h2, h3⟩
  · rw [if_neg e, if_neg e]; exact h j (by omega)
theorem MF_upd {tf sf yf : Nat → Int32} {fl : FL} (h : MF tf sf yf fl) {x z : Int32} : MF (upd tf fl.length x) (upd sf fl.length z) yf fl := by
  intro j hj
  rw [upd_n (by omega), upd_n (by omega)]
  exact h j hj
theorem MF_y {tf sf yf : Nat → Int32} {fl : FL} (h : MF tf sf yf fl) (hl : ∀ j, j < fl.length → (fB fl j).length ≤ 1900) {k : Nat} {v : Int32} (hk : 1900 * fl.length ≤ k) : MF tf sf (upd yf k v) fl := by
  intro j hj
  obtain ⟨h1, h2, h3⟩ := h j hj
  have := hl j hj
  refine ⟨h1, h2, Bs_out h3 ?_⟩
  right
  have : 1900 * (j + 1) ≤ 1900 * fl.length := Nat.mul_le_mul_left _ hj
  omega
theorem rd_lt {b : Nat → Nat} {all r : Nat} (hw : ∀ i, i < rCnt b → wRow b (24 + 12 * i) (rBase b) all = -1) (ha : all ≤ 1500) (hr : r ≤ rCnt b) : ∀ j, j < (rdF b r).length → (fB (rdF b r) j).length ≤ 1900 := by
  intro j hj
  rw [rdF_len] at hj
  rw [rdF_B hj, sl_len]
  have := wRow_ok (hw j (by omega))
  unfold rLen
  omega
theorem kp_step (P k : Nat) (f lf : Nat → Int32) : upd (fun j => if j < k then f (P + j) else lf j) k (f (P + k)) = fun j => if j < k + 1 then f (P + j) else lf j := by
  funext j
  unfold upd
  by_cases h : j = k
  · subst h; simp
  · rw [if_neg h]; dsimp only
    by_cases h2 : j < k
    · rw [if_pos h2, if_pos (by omega)]
    · rw [if_neg h2, if_neg (by omega)]
theorem kp_row {rj nrf : Nat → Int32} {r j : Nat} {x : Int32} (h : ∀ i, i < 3 * r + j → rj i = nrf i) (e : x = nrf (3 * r + j)) : ∀ i, i < 3 * r + (j + 1) → upd rj (3 * r + j) x i = nrf i := by
  intro i hi
  by_cases q : i = 3 * r + j
  · subst q; rw [upd_s, e]
  · rw [upd_n q]; exact h i (by omega)
theorem kp_mf {b : Nat → Nat} {r : Nat} {tk sk yj rj : Nat → Int32} {x z : Int32} (h : MF tk sk yj (rdF b r)) (hb : Bs yj (1900 * r) (sl b (rBase b + rSt b r) (rLen b r - 1))) (hx : x.toInt = (rj (3 * r)).toInt) (q1 : (rj (3 * r)).toInt = numI b (24 + 12 * r) 3) (hT : (rTag b r : Int) = numI b (24 + 12 * r) 3) (hz : z.toInt = ((rLen b r - 1 : Nat) : Int)) : MF (upd tk r x) (upd sk r z) yj (rdF b (r + 1)) := by
  have h1 : MF (upd tk r x) (upd sk r z) yj (rdF b r) := by
    have := MF_upd (x := x) (z := z) h
    rw [rdF_len] at this
    exact this
  simp only [rdF]
  refine MF_snoc h1 ?_ ?_ ?_
  · rw [rdF_len, upd_s, hx, q1, hT]
  · rw [rdF_len, upd_s, hz, sl_len]
  · rw [rdF_len]; exact hb
