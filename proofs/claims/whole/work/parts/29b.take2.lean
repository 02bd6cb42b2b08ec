/-- what takeRow leaves -/
def TkR (b : Nat → Nat) (r : Nat) (fd fd2 : Nat → FV) (rf rf2 : Nat → Int32) : Prop :=
  FR (fd2 r) (rTag b r) (sl b (rBase b + rSt b r) (rLen b r - 1)) ∧ (∀ j, j ≠ r → fd2 j = fd j) ∧ FG fd2 ∧ (∀ i, i < 3 * r → rf2 i = rf i) ∧ (rf2 (3 * r)).toInt = numI b (24 + 12 * r) 3 ∧ (rf2 (3 * r + 1)).toInt = numI b (24 + 12 * r + 3) 4 ∧ (rf2 (3 * r + 2)).toInt = numI b (24 + 12 * r + 7) 5
theorem TkR_of {b : Nat → Nat} {r : Nat} {fd : Nat → FV} {v : FV} {rf : Nat → Int32} {t l s : Int32} (h1 : FR v (rTag b r) (sl b (rBase b + rSt b r) (rBase b + rSt b r + rLen b r - 1 - (rBase b + rSt b r)))) (hg : FG (va_up fd r v)) (e1 : t.toInt = numI b (24 + 12 * r) 3) (e2 : l.toInt = numI b (24 + 12 * r + 3) 4) (e3 : s.toInt = numI b (24 + 12 * r + 7) 5) : TkR b r fd (va_up fd r v) rf (upd (upd (upd rf (3 * r) t) (3 * r + 1) l) (3 * r + 2) s) := by
  refine ⟨?_, fun j hj => va_up_ne fd v hj, hg, fun i hi => ?_, ?_, ?_, ?_⟩
  · rw [va_up_self]; rw [show rBase b + rSt b r + rLen b r - 1 - (rBase b + rSt b r) = rLen b r - 1 by omega] at h1; exact h1
  · rw [upd_n (by omega), upd_n (by omega), upd_n (by omega)]
  · rw [upd_n (by omega), upd_n (by omega), upd_s, e1]
  · rw [upd_n (by omega), upd_s, e2]
  · rw [upd_s, e3]
theorem XF_TkR {b : Nat → Nat} {r : Nat} {fd fd2 : Nat → FV} {rf rf2 : Nat → Int32} (h : XF fd (rdF b r)) (t : TkR b r fd fd2 rf rf2) : XF fd2 (rdF b (r + 1)) := by
  intro j hj
  rw [rdF_len] at hj
  rw [rdF_T hj, rdF_B hj]
  by_cases e : j = r
  · subst e; exact t.1
  · rw [t.2.1 j e]
    have := h j (by rw [rdF_len]; omega)
    rw [rdF_T (by omega), rdF_B (by omega)] at this
    exact this
theorem RW_TkR {b : Nat → Nat} {r : Nat} {fd fd2 : Nat → FV} {rf rf2 : Nat → Int32} (h : RW b rf r) (t : TkR b r fd fd2 rf rf2) : RW b rf2 (r + 1) :=
  RW_step h t.2.2.2.1 t.2.2.2.2.1 t.2.2.2.2.2.1 t.2.2.2.2.2.2
theorem tl_step {f lf : Nat → Int32} {P k : Nat} {x y : Int32} (hBF : BF f) (h : ∀ j, j < k → lf j = f (P + j)) (e : x.toInt = (lk f P k : Int)) (e2 : y = sB (u8 x)) : ∀ j, j < k + 1 → upd lf k (sB (u8 y)) j = f (P + j) := by
  intro j hj
  by_cases q : j = k
  · subst q; rw [upd_s, e2, sB_u8_sB, u8_of e (lk_lt f P j)]; unfold lk; exact (hBF _).symm
  · rw [upd_n q]; exact h j (by omega)
