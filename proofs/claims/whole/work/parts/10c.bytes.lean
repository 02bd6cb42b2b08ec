/-! rows of bytes in arrays -/
theorem u8_of {x : Int32} {n : Nat} (h : x.toInt = (n : Int)) (hn : n < 256) : u8 x = n := by
  have := ti_ofN h
  subst this
  unfold u8
  rw [pk_tn (by omega)]
  omega
/-- the array's entries are bytes -/
def BF (f : Nat → Int32) : Prop := ∀ j, f j = sB (u8 (f j))
theorem BF_0 : BF (fun _ => 0) := fun _ => (by decide : (0 : Int32) = sB (u8 0))
theorem gd_l {a b : List Nat} {j : Nat} (h : j < a.length) : (a ++ b).getD j 0 = a.getD j 0 := by simp [List.getD, List.getElem?_append_left h]
theorem gd_r {a b : List Nat} {j : Nat} (h : a.length ≤ j) : (a ++ b).getD j 0 = b.getD (j - a.length) 0 := by simp [List.getD, List.getElem?_append_right h]
theorem gd_m {l : List Nat} {j : Nat} (h : j < l.length) : l.getD j 0 ∈ l := by simp [List.getD, h]
theorem gd_o {l : List Nat} {j : Nat} (h : l.length ≤ j) : l.getD j 0 = 0 := by simp [List.getD, h]
theorem sB_u8_sB (n : Nat) : sB (u8 (sB n)) = sB n := by
  have h : sB n = sB (n % 256) := by
    unfold sB
    have : (Int32.ofNat n).toInt8 = (Int32.ofNat (n % 256)).toInt8 := by
      apply Int8.toBitVec_inj.mp
      apply BitVec.eq_of_toNat_eq
      rw [Int32.toBitVec_toInt8, Int32.toBitVec_toInt8, BitVec.signExtend_eq_setWidth_of_le _ (by decide), BitVec.signExtend_eq_setWidth_of_le _ (by decide)]
      simp [Int32.toBitVec_ofNat]
    rw [this]
  rw [h, u8_sB (Nat.mod_lt _ (by decide))]
theorem BF_upd {f : Nat → Int32} (h : BF f) (k n : Nat) : BF (upd f k (sB n)) := fun j => by
  unfold upd
  split
  · exact (sB_u8_sB n).symm
  · exact h j
theorem BF_fit {f : Nat → Int32} (h : BF f) (j : Nat) : fits .byte (.int (f j)) = true := by
  rw [h j]; unfold sB; exact pk_fb _
/-- from place o on the array holds the bytes l -/
def Bs (f : Nat → Int32) (o : Nat) (l : List Nat) : Prop := ∀ j, j < l.length → f (o + j) = sB (l.getD j 0)
def B8 (l : List Nat) : Prop := ∀ x ∈ l, x < 256
theorem Bs_nil (f : Nat → Int32) (o : Nat) : Bs f o [] := fun j h => by simp at h
theorem Bs_snoc {f : Nat → Int32} {o : Nat} {l : List Nat} (h : Bs f o l) (c : Nat) : Bs (upd f (o + l.length) (sB c)) o (l ++ [c]) := by
  intro j hj
  simp only [List.length_append, List.length_cons, List.length_nil] at hj
  unfold upd
  by_cases e : j = l.length
  · subst e; simp
  · rw [if_neg (by omega), h j (by omega), gd_l (by omega)]
theorem Bs_set {f : Nat → Int32} {o : Nat} {l r : List Nat} {x : Nat} (h : Bs f o (l ++ x :: r)) (y : Nat) : Bs (upd f (o + l.length) (sB y)) o (l ++ y :: r) := by
  intro j hj
  simp only [List.length_append, List.length_cons] at hj
  unfold upd
  by_cases e : j = l.length
  · subst e; simp
  · rw [if_neg (by omega), h j (by simp only [List.length_append, List.length_cons]; omega)]
    by_cases e2 : j < l.length
    · rw [gd_l e2, gd_l e2]
    · rw [gd_r (by omega), gd_r (by omega)]
      obtain ⟨m, hm⟩ : ∃ m, j - l.length = m + 1 := ⟨j - l.length - 1, by omega⟩
      rw [hm]; simp
theorem Bs_out {f : Nat → Int32} {o : Nat} {l : List Nat} (h : Bs f o l) {k : Nat} {v : Int32} (hk : k < o ∨ o + l.length ≤ k) : Bs (upd f k v) o l := by
  intro j hj
  unfold upd
  rw [if_neg (by omega)]
  exact h j hj
theorem Bs_at {f : Nat → Int32} {o : Nat} {l : List Nat} (h : Bs f o l) (h8 : B8 l) {j : Nat} (hj : j < l.length) : u8 (f (o + j)) = l.getD j 0 := by
  rw [h j hj, u8_sB (h8 _ (gd_m hj))]
theorem Bs_ext {f g : Nat → Int32} {o o' : Nat} {l : List Nat} (h : Bs f o l) (e : ∀ j, j < l.length → g (o' + j) = f (o + j)) : Bs g o' l := fun j hj => by rw [e j hj]; exact h j hj
theorem B8_nil : B8 [] := fun x h => by simp at h
theorem B8_app {a b : List Nat} (ha : B8 a) (hb : B8 b) : B8 (a ++ b) := fun x h => (List.mem_append.mp h).elim (ha x) (hb x)
theorem B8_snoc {a : List Nat} {c : Nat} (ha : B8 a) (hc : c < 256) : B8 (a ++ [c]) := B8_app ha (fun x h => by simp at h; omega)
theorem B8_get {l : List Nat} (h : B8 l) (j : Nat) : l.getD j 0 < 256 := by
  by_cases hj : j < l.length
  · exact h _ (gd_m hj)
  · rw [gd_o (by omega)]; omega
/-- the last m digits of n -/
def dg (n : Nat) : Nat → List Nat
  | 0 => []
  | m + 1 => (48 + n / 10 ^ m % 10) :: dg n m
theorem dg_len (n : Nat) : ∀ m, (dg n m).length = m
  | 0 => rfl
  | m + 1 => by simp [dg, dg_len n m]
theorem dg_B8 (n : Nat) : ∀ m, B8 (dg n m)
  | 0 => B8_nil
  | m + 1 => fun x h => by
    rcases List.mem_cons.mp h with h | h
    · omega
    · exact dg_B8 n m x h
section GY
variable {E : GE} {g : Cf} {cc : ByteArray} {own : String} {ret : Option FieldType} {ws : va_W} {cells slots pc : Nat} {lv : List (Nat × Value)} {st : List Value} {a a0 : Nat}
theorem g_copyB (C : Cx E g cc own ret) {D mcT msT : Nat} (r : RF g D mcT msT) (hD2 : 2 ≤ D) {index : Nat} (hlink : Cond.methodLink own index arraycopyName ∈ GW) (hnat : Cond.native arraycopyName ∈ GW) (hstat : Cond.static arraycopyName ∈ GW) (hini : Cond.initialized "java/lang/System" ∈ GW) (d : decode cc pc = .ok (.invokestatic index, 3))
    (q0 q1 : Nat) {n0 n1 : Nat} {f f1 : Nat → Int32} (h0 : ws[q0]? = some (a0, aB E n0 f)) (h1 : ws[q1]? = some (a, aB E n1 f1)) {sp dp n : Int32} (hsp : sp.toInt = 0) (hdp : dp.toInt = 0) (N : Nat) (hN : n.toInt = (N : Int)) (hn0 : N ≤ n0) (hn1 : N ≤ n1) (hf : BF f) (hst : (st.map fun v => v.category).sum ≤ 8)
    (kk : G E g (ws.set q1 (a, aB E n1 (va_cpy f f1 0 0 N))) cells slots (pc + 3) lv st) : G E g ws cells slots pc lv (.int n :: .int dp :: .ref a :: .int sp :: .ref a0 :: st) := by
  intro H locs ls hl hP hD hS
  have z0 : (0 : Int32).toInt = 0 := rfl
  have e0 : sp.toNatClampNeg = 0 := ti_clamp (n := 0) (by rw [hsp]; rfl)
  have e1 : dp.toNatClampNeg = 0 := ti_clamp (n := 0) (by rw [hdp]; rfl)
  have e2 : n.toNatClampNeg = N := ti_clamp hN
  refine va_copyi (D := E.1) C.1 C.2.1 (C.2.2.1.trans hl.1.symm) C.2.2.2.1 (C.wd hlink) (C.wd hnat) (C.wd hstat) (C.wd hini) C.2.2.2.2.2.1.1 hP hD hS q0 q1 0 0 h0 h1 rfl rfl rfl
    (fun q => by have := Int32.lt_iff_toInt_lt.mp q; omega) (fun q => by have := Int32.lt_iff_toInt_lt.mp q; omega) (fun q => by have := Int32.lt_iff_toInt_lt.mp q; omega) (by rw [e0, e2]; omega) (by rw [e1, e2]; omega) (fun i _ => BF_fit hf _) (by have := r.1; omega)
    (by have := r.2.2.2; have h9 : nativeFrameWords "java/lang/System" "arraycopy" 5 + 11 ≤ 40 := by decide
        omega) d (fun H1 locs1 hP1 hD1 hS1 => ?_)
  rw [e0, e1, e2] at hP1 hD1
  exact kk H1 locs1 ls hl hP1 hD1 hS1
end GY
theorem cpy_Bs {f f1 : Nat → Int32} {N : Nat} {l : List Nat} (h : Bs f 0 l) (hl : l.length ≤ N) : Bs (va_cpy f f1 0 0 N) 0 l := by
  intro j hj
  unfold va_cpy
  rw [if_pos (by omega)]
  simpa using h j hj
theorem cpy_BF {f f1 : Nat → Int32} {N : Nat} (h : BF f) (h1 : BF f1) : BF (va_cpy f f1 0 0 N) := by
  intro j
  unfold va_cpy
  split
  · exact h _
  · exact h1 _
theorem fill_step (k : Nat) (v : Int32) (f : Nat → Int32) : upd (fun j => if j < k then v else f j) k v = fun j => if j < k + 1 then v else f j := by
  funext j
  unfold upd
  by_cases h : j = k
  · subst h; simp
  · rw [if_neg h]; dsimp only
    by_cases h2 : j < k
    · rw [if_pos h2, if_pos (by omega)]
    · rw [if_neg h2, if_neg (by omega)]
theorem u8_i2b (x : Int32) : u8 (sB (u8 x)) = u8 x := u8_sB (u8_lt x)
theorem kw_max : Cond.static Lib.Math.max.name ∈ GW ∧ Cond.initialized "java/lang/Math" ∈ GW ∧ Cond.code Lib.Math.max.name Lib.Math.max.code 2 (some .int) ∈ GW := ⟨kw2_76, kw1_6, kw2_77⟩
theorem kw_min : Cond.static Lib.Math.min.name ∈ GW ∧ Cond.initialized "java/lang/Math" ∈ GW ∧ Cond.code Lib.Math.min.name Lib.Math.min.code 2 (some .int) ∈ GW := ⟨kw1_196, kw1_6, kw1_197⟩
theorem kw_maxX2 : Cond.methodLink RX2 17 Lib.Math.max.name ∈ GW := kw2_75
theorem kw_minJ7 : Cond.methodLink RJ7 304 Lib.Math.min.name ∈ GW := kw1_225
theorem kw_minX3 : Cond.methodLink RX3 170 Lib.Math.min.name ∈ GW := kw1_195
theorem g_mmax {E : GE} {g : Cf} {cc : ByteArray} {own : String} {ret : Option FieldType} {ws : va_W} {cells slots pc : Nat} {lv : List (Nat × Value)} {st : List Value} (C : Cx E g cc own ret) {D mcT msT : Nat} (r : RF g D mcT msT) (hD1 : 1 ≤ D) {index : Nat} (hw : Cond.methodLink own index Lib.Math.max.name ∈ GW) {x y : Int32} (d : decode cc pc = .ok (.invokestatic index, 3)) (hst : (st.map fun v => v.category).sum ≤ 8) (hc : cells ≤ mcT) (hs : slots ≤ msT) (kk : ∀ z : Int32, (x.toInt ≤ y.toInt ∧ z.toInt = y.toInt) ∨ (y.toInt ≤ x.toInt ∧ z.toInt = x.toInt) → G E g ws cells slots (pc + 3) lv (.int z :: st)) : G E g ws cells slots pc lv (.int y :: .int x :: st) :=
  fun H locs ls hl hP hD hS => va_mmax C.1 C.2.1 (C.2.2.1.trans hl.1.symm) C.2.2.2.1 (C.wd hw) (C.wd kw_max.1) (C.wd kw_max.2.1) (C.wd kw_max.2.2) (by have := r.1; omega) (by have := r.2.2.2; omega) (Nat.le_trans hc r.2.1) (Nat.le_trans hs r.2.2.1) d (kk _ (by
    split
    · rename_i h; have := Int32.lt_iff_toInt_lt.mp h; omega
    · rename_i h; have : ¬ _ := fun q => h (Int32.lt_iff_toInt_lt.mpr q); omega) H locs ls hl hP hD hS)
theorem g_mmin {E : GE} {g : Cf} {cc : ByteArray} {own : String} {ret : Option FieldType} {ws : va_W} {cells slots pc : Nat} {lv : List (Nat × Value)} {st : List Value} (C : Cx E g cc own ret) {D mcT msT : Nat} (r : RF g D mcT msT) (hD1 : 1 ≤ D) {index : Nat} (hw : Cond.methodLink own index Lib.Math.min.name ∈ GW) {x y : Int32} (d : decode cc pc = .ok (.invokestatic index, 3)) (hst : (st.map fun v => v.category).sum ≤ 8) (hc : cells ≤ mcT) (hs : slots ≤ msT) (kk : ∀ z : Int32, (x.toInt ≤ y.toInt ∧ z.toInt = x.toInt) ∨ (y.toInt ≤ x.toInt ∧ z.toInt = y.toInt) → G E g ws cells slots (pc + 3) lv (.int z :: st)) : G E g ws cells slots pc lv (.int y :: .int x :: st) :=
  fun H locs ls hl hP hD hS => va_mmin C.1 C.2.1 (C.2.2.1.trans hl.1.symm) C.2.2.2.1 (C.wd hw) (C.wd kw_min.1) (C.wd kw_min.2.1) (C.wd kw_min.2.2) (by have := r.1; omega) (by have := r.2.2.2; omega) (Nat.le_trans hc r.2.1) (Nat.le_trans hs r.2.2.1) d (kk _ (by
    split
    · rename_i h; have := Int32.lt_iff_toInt_lt.mp h; omega
    · rename_i h; have : ¬ _ := fun q => h (Int32.lt_iff_toInt_lt.mpr q); omega) H locs ls hl hP hD hS)
theorem dg_step {f : Nat → Int32} {o : List Nat} {j k num : Nat} (h : Bs f 0 (o ++ List.replicate (j + 1) 48 ++ dg num (k - (j + 1)))) (hj : j + 1 ≤ k) {x57 x56 x50 x55 rs : Int32} (e57 : x57 = sB (u8 x56)) (e56 : x56.toInt = x50.toInt + x55.toInt) (e50 : x50.toInt = 48) (e55 : x55.toInt = rs.toInt % 10) (hr : rs.toInt = ((num / 10 ^ (k - (j + 1)) : Nat) : Int)) : Bs (upd f (o.length + (j + 1) - 1) (sB (u8 x57))) 0 (o ++ List.replicate (j + 1 - 1) 48 ++ dg num (k - (j + 1 - 1))) := by
  have e : x56.toInt = ((48 + num / 10 ^ (k - (j + 1)) % 10 : Nat) : Int) := by rw [e56, e50, e55, hr]; omega
  have h2 : u8 x57 = 48 + num / 10 ^ (k - (j + 1)) % 10 := by rw [e57, u8_i2b]; exact u8_of e (by omega)
  rw [h2, show j + 1 - 1 = j by omega, show k - j = (k - (j + 1)) + 1 by omega]
  rw [List.replicate_succ', ← List.append_assoc, List.append_assoc (o ++ List.replicate j 48)] at h
  have h3 := Bs_set (l := o ++ List.replicate j 48) (x := 48) (r := dg num (k - (j + 1))) h (48 + num / 10 ^ (k - (j + 1)) % 10)
  have h4 : 0 + (o ++ List.replicate j 48).length = o.length + (j + 1) - 1 := by simp
  rw [h4] at h3
  exact h3
theorem dg_end {f : Nat → Int32} {o : List Nat} {j k num : Nat} (h : Bs f 0 (o ++ List.replicate j 48 ++ dg num (k - j))) (hj : j = 0) : Bs f 0 (o ++ dg num k) := by
  subst hj; simpa using h
