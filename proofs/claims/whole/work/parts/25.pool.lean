/-! the sixty fields of the class: their objects fo j, and what they hold: tag, first, second, size, subfields, the array's address, its room, its bytes -/
abbrev FV : Type := Int32 × Int32 × Int32 × Int32 × Int32 × Nat × Nat × (Nat → Int32)
abbrev zc (E : GE) (fo : Nat → Nat) (fd : Nat → FV) (j : Nat) : va_W := [(fo j, .inr (2, [.int (fd j).1, .int (fd j).2.1, .int (fd j).2.2.1, .ref (fd j).2.2.2.2.2.1, .int (fd j).2.2.2.1, .int (fd j).2.2.2.2.1])), ((fd j).2.2.2.2.2.1, aB E (fd j).2.2.2.2.2.2.1 (fd j).2.2.2.2.2.2.2)]
def zz (E : GE) (fo : Nat → Nat) (fd : Nat → FV) (l : List Nat) : va_W := l.flatMap (zc E fo fd)
theorem va_P_mem {D : va_G} {cl : List vw_C} {ws : va_W} {H : Heap} : va_P D cl ws H ↔ ∀ q ∈ ws, va_at D cl q H :=
  ⟨fun h q hq => by obtain ⟨i, hi⟩ := List.getElem?_of_mem hq; exact h i q hi, fun h k q hk => h q (List.mem_of_getElem? hk)⟩
theorem va_D_nd {A : Nat → Prop} {ws : va_W} : va_D A ws ↔ (ws.map Prod.fst).Nodup ∧ ∀ q ∈ ws, A q.1 := by
  constructor
  · intro h
    refine ⟨?_, fun q hq => by obtain ⟨i, hi⟩ := List.getElem?_of_mem hq; exact h.2 i q hi⟩
    rw [List.nodup_iff_pairwise_ne, List.pairwise_iff_getElem]
    intro i j hi hj hij e
    simp only [List.length_map] at hi hj
    simp only [List.getElem_map] at e
    have := h.1 i j _ _ (List.getElem?_eq_getElem hi) (List.getElem?_eq_getElem hj) e
    omega
  · intro ⟨h1, h2⟩
    refine ⟨fun i j p q hi hj e => ?_, fun k q hk => h2 q (List.mem_of_getElem? hk)⟩
    obtain ⟨hi1, hi2⟩ := List.getElem?_eq_some_iff.mp hi
    obtain ⟨hj1, hj2⟩ := List.getElem?_eq_some_iff.mp hj
    rw [List.nodup_iff_pairwise_ne, List.pairwise_iff_getElem] at h1
    rcases Nat.lt_trichotomy i j with q1 | q1 | q1
    · exact (h1 i j (by simpa using hi1) (by simpa using hj1) q1 (by simp only [List.getElem_map, hi2, hj2]; exact e)).elim
    · exact q1
    · exact (h1 j i (by simpa using hj1) (by simpa using hi1) q1 (by simp only [List.getElem_map, hi2, hj2]; exact e.symm)).elim
theorem va_P_perm {D : va_G} {cl : List vw_C} {w1 w2 : va_W} {H : Heap} (p : w1.Perm w2) (h : va_P D cl w1 H) : va_P D cl w2 H := va_P_mem.mpr (fun q hq => va_P_mem.mp h q (p.mem_iff.mpr hq))
theorem va_D_perm {A : Nat → Prop} {w1 w2 : va_W} (p : w1.Perm w2) (h : va_D A w1) : va_D A w2 := by
  obtain ⟨h1, h2⟩ := va_D_nd.mp h
  exact va_D_nd.mpr ⟨((p.map Prod.fst).nodup_iff).mp h1, fun q hq => h2 q (p.mem_iff.mpr hq)⟩
theorem g_pm {E : GE} {g : Cf} {ws ws' : va_W} {cells slots pc : Nat} {lv : List (Nat × Value)} {st : List Value} (p : ws.Perm ws') (k : G E g ws' cells slots pc lv st) : G E g ws cells slots pc lv st :=
  g_ws (fun _ hP => va_P_perm p hP) (fun hD => va_D_perm p hD) k
abbrev R60 : List Nat := List.range 60
theorem zz_perm (E : GE) (fo : Nat → Nat) (fd : Nat → FV) {i : Nat} (hi : i < 60) : (zz E fo fd R60).Perm (zc E fo fd i ++ zz E fo fd (R60.erase i)) := by
  have h : R60.Perm (i :: R60.erase i) := List.perm_cons_erase (List.mem_range.mpr hi)
  have := h.flatMap_right (zc E fo fd)
  simpa [zz] using this
theorem zz_cg (E : GE) (fo : Nat → Nat) {fd fd2 : Nat → FV} : ∀ (l : List Nat), (∀ j ∈ l, fd j = fd2 j) → zz E fo fd l = zz E fo fd2 l
  | [], _ => rfl
  | a :: l, h => by
    have h1 := zz_cg E fo (fd := fd) (fd2 := fd2) l (fun j hj => h j (List.mem_cons_of_mem _ hj))
    have h2 := h a List.mem_cons_self
    simp only [zz, List.flatMap_cons] at h1 ⊢
    rw [h1]
    simp only [zc, h2]
theorem zz_up (E : GE) (fo : Nat → Nat) (fd : Nat → FV) (i : Nat) (v : FV) : zz E fo (va_up fd i v) (R60.erase i) = zz E fo fd (R60.erase i) :=
  zz_cg E fo _ (fun j hj => va_up_ne fd v (fun e => by subst e; exact (List.nodup_range.not_mem_erase) hj))
theorem g_focus {E : GE} {g : Cf} {X : va_W} {cells slots pc : Nat} {lv : List (Nat × Value)} {st : List Value} {fo : Nat → Nat} {fd : Nat → FV} (i : Nat) (hi : i < 60) {tg f1 f2 sz su : Int32} {bq cp : Nat} {ff : Nat → Int32} (hfd : fd i = (tg, f1, f2, sz, su, bq, cp, ff)) (k : G E g ((X ++ [(fo i, .inr (2, [.int tg, .int f1, .int f2, .ref bq, .int sz, .int su])), (bq, aB E cp ff)]) ++ zz E fo fd (R60.erase i)) cells slots pc lv st) : G E g (X ++ zz E fo fd R60) cells slots pc lv st := by
  refine g_pm ?_ k
  have := zz_perm E fo fd hi
  simp only [zc, hfd] at this
  rw [List.append_assoc]
  exact this.append_left X
theorem g_unfocus {E : GE} {g : Cf} {X : va_W} {cells slots pc : Nat} {lv : List (Nat × Value)} {st : List Value} {fo : Nat → Nat} {fd : Nat → FV} (i : Nat) (hi : i < 60) {tg f1 f2 sz su : Int32} {bq cp : Nat} {ff : Nat → Int32} (k : G E g (X ++ zz E fo (va_up fd i (tg, f1, f2, sz, su, bq, cp, ff)) R60) cells slots pc lv st) : G E g ((X ++ [(fo i, .inr (2, [.int tg, .int f1, .int f2, .ref bq, .int sz, .int su])), (bq, aB E cp ff)]) ++ zz E fo fd (R60.erase i)) cells slots pc lv st := by
  refine g_pm ?_ k
  have := zz_perm E fo (va_up fd i (tg, f1, f2, sz, su, bq, cp, ff)) hi
  rw [zz_up] at this
  simp only [zc, va_up_self] at this
  rw [List.append_assoc]
  exact (this.append_left X).symm
theorem up_same (fd : Nat → FV) {i : Nat} {v : FV} (h : fd i = v) : va_up fd i v = fd := by
  funext j
  by_cases e : j = i
  · subst e; rw [va_up_self, h]
  · rw [va_up_ne fd v e]
theorem g_unfocus0 {E : GE} {g : Cf} {X : va_W} {cells slots pc : Nat} {lv : List (Nat × Value)} {st : List Value} {fo : Nat → Nat} {fd : Nat → FV} (i : Nat) (hi : i < 60) {tg f1 f2 sz su : Int32} {bq cp : Nat} {ff : Nat → Int32} (hfd : fd i = (tg, f1, f2, sz, su, bq, cp, ff)) (k : G E g (X ++ zz E fo fd R60) cells slots pc lv st) : G E g ((X ++ [(fo i, .inr (2, [.int tg, .int f1, .int f2, .ref bq, .int sz, .int su])), (bq, aB E cp ff)]) ++ zz E fo fd (R60.erase i)) cells slots pc lv st := by
  refine g_unfocus i hi ?_
  rw [up_same fd hfd]
  exact k
theorem Spl.atP {X Z wr wc : va_W} (isR isC : List Nat) (hR : isR.map (fun i => X[i]?) = wr.map some) (hC : isC.map (fun i => X[i]?) = wc.map some) (hn : va_nd (isR ++ isC) = true) : Spl (X ++ Z) wr (wc ++ Z) := by
  obtain ⟨h1, h2⟩ := Spl.at (ws := X) isR isC hR hC hn
  have key : ∀ (is : List Nat) (w : va_W), is.map (fun i => X[i]?) = w.map some → ∀ q ∈ w, q ∈ X := by
    intro is w hs q hq
    obtain ⟨i, hi⟩ := List.getElem?_of_mem hq
    have h2 : (is.map (fun i => X[i]?))[i]? = some (some q) := by rw [hs, List.getElem?_map, hi]; rfl
    rw [List.getElem?_map] at h2
    obtain ⟨j, hj, e⟩ := Option.map_eq_some_iff.mp h2
    exact List.mem_of_getElem? e
  refine ⟨fun D cl H hP => ?_, fun A hD => ?_⟩
  · have hP' := va_P_mem.mp hP
    exact ⟨va_P_mem.mpr (fun q hq => hP' q (List.mem_append_left _ (key isR wr hR q hq))), va_P_mem.mpr (fun q hq => hP' q ((List.mem_append.mp hq).elim (fun h => List.mem_append_left _ (key isC wc hC q h)) (fun h => List.mem_append_right _ h)))⟩
  · have h3 := h2 A hD.left
    rw [← List.append_assoc]
    refine va_D.app h3 hD.right (fun i j p q hi hj => ?_)
    have hm : p ∈ X := by
      rcases List.mem_append.mp (List.mem_of_getElem? hi) with h | h
      · exact key isR wr hR p h
      · exact key isC wc hC p h
    obtain ⟨i2, hi2⟩ := List.getElem?_of_mem hm
    exact hD.cross hi2 hj
/-- the bytes behind the indicators -/
def bdy (tag : Nat) (bd : List Nat) : List Nat := if tag ≤ 9 then bd else bd.drop 2
/-- a field of the class holds tag and bytes -/
def FR (v : FV) (tag : Nat) (bd : List Nat) : Prop := v.1.toInt = (tag : Int) ∧ v.2.2.2.1.toInt = ((bdy tag bd).length : Int) ∧ Bs v.2.2.2.2.2.2.2 0 (bdy tag bd) ∧ v.2.2.2.2.1.toInt = (c31 (bdy tag bd) : Int) ∧ (bdy tag bd).length ≤ v.2.2.2.2.2.2.1 ∧ (9 < tag → v.2.1.toInt = (bd.getD 0 0 : Int) ∧ v.2.2.1.toInt = (bd.getD 1 0 : Int))
/-- every field object, used or not -/
def FG (fd : Nat → FV) : Prop := ∀ i, i < 60 → BF (fd i).2.2.2.2.2.2.2 ∧ 16 ≤ (fd i).2.2.2.2.2.2.1 ∧ (fd i).2.2.2.2.2.2.1 ≤ 4000
def XF (fd : Nat → FV) (fl : FL) : Prop := ∀ i, i < fl.length → FR (fd i) (fT fl i) (fB fl i)
