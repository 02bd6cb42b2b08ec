section GB
variable {E : GE} {g : Cf} {ws : va_W} {cells slots pc : Nat} {lv : List (Nat × Value)} {st : List Value}
theorem g_lvE {lv' : List (Nat × Value)} (h : lv = lv') (k : G E g ws cells slots pc lv' st) : G E g ws cells slots pc lv st := h ▸ k
theorem g_tail {X Z w : va_W} (k : G E g ((X ++ w) ++ Z) cells slots pc lv st) : G E g ((X ++ Z) ++ w) cells slots pc lv st := by
  refine g_ws (ws' := (X ++ w) ++ Z) (fun H hP => ?_) (fun hD => ?_) k
  · intro k q hk
    have : q ∈ (X ++ Z) ++ w := by
      have h := List.mem_of_getElem? hk
      simp only [List.mem_append] at h ⊢
      rcases h with (h | h) | h
      · exact Or.inl (Or.inl h)
      · exact Or.inr h
      · exact Or.inl (Or.inr h)
    obtain ⟨i, hi⟩ := List.getElem?_of_mem this
    exact hP i q hi
  · refine va_D.app (va_D.app hD.left.left hD.right (fun i j p q hi hj => hD.cross (i := i) (by rw [List.getElem?_append_left (List.getElem?_eq_some_iff.mp hi).1]; exact hi) hj)) hD.left.right (fun i j p q hi hj e => ?_)
    by_cases h1 : i < X.length
    · rw [List.getElem?_append_left h1] at hi
      exact hD.left.cross hi hj e
    · rw [List.getElem?_append_right (by omega)] at hi
      exact hD.cross (i := X.length + j) (by rw [List.getElem?_append_right (by omega), Nat.add_sub_cancel_left]; exact hj) hi e.symm
theorem g_permZ {X ws' Z : va_W} (is : List Nat) (hn : va_nd is = true) (hs : is.map (fun i => X[i]?) = ws'.map some) (hl : is.length = X.length) (k : G E g (ws' ++ Z) cells slots pc lv st) : G E g (X ++ Z) cells slots pc lv st := by
  have hm : ∀ q ∈ ws', q ∈ X := by
    intro q hq
    obtain ⟨i, hi⟩ := List.getElem?_of_mem hq
    have h2 : (is.map (fun i => X[i]?))[i]? = some (some q) := by rw [hs, List.getElem?_map, hi]; rfl
    rw [List.getElem?_map] at h2
    obtain ⟨j, hj, e⟩ := Option.map_eq_some_iff.mp h2
    exact List.mem_of_getElem? e
  refine g_ws (ws' := ws' ++ Z) (fun H hP => ?_) (fun hD => ?_) k
  · intro k q hk
    have : q ∈ X ++ Z := by
      have h := List.mem_of_getElem? hk
      simp only [List.mem_append] at h ⊢
      exact h.elim (fun h => Or.inl (hm q h)) Or.inr
    obtain ⟨i, hi⟩ := List.getElem?_of_mem this
    exact hP i q hi
  · refine va_D.app (hD.left.sub is hn hs) hD.right (fun i j p q hi hj => ?_)
    obtain ⟨i2, hi2⟩ := List.getElem?_of_mem (hm p (List.mem_of_getElem? hi))
    exact hD.cross hi2 hj
end GB
theorem Spl.none (ws : va_W) : Spl ws ws [] := ⟨fun _ _ _ hP => ⟨hP, fun k q h => by simp at h⟩, fun _ hD => by rw [List.append_nil]; exact hD⟩
theorem Spl.atZ {X Z wr wc : va_W} (isR isC : List Nat) (hR : isR.map (fun i => X[i]?) = wr.map some) (hC : isC.map (fun i => X[i]?) = wc.map some) (hn : va_nd (isR ++ isC) = true) : Spl (X ++ Z) (wr ++ Z) wc := by
  have key : ∀ (is : List Nat) (w : va_W), is.map (fun i => X[i]?) = w.map some → ∀ q ∈ w, q ∈ X := by
    intro is w hs q hq
    obtain ⟨i, hi⟩ := List.getElem?_of_mem hq
    have h2 : (is.map (fun i => X[i]?))[i]? = some (some q) := by rw [hs, List.getElem?_map, hi]; rfl
    rw [List.getElem?_map] at h2
    obtain ⟨j, hj, e⟩ := Option.map_eq_some_iff.mp h2
    exact List.mem_of_getElem? e
  refine ⟨fun D cl H hP => ⟨fun k q hk => ?_, fun k q hk => ?_⟩, fun A hD => ?_⟩
  · have : q ∈ X ++ Z := by
      have h := List.mem_of_getElem? hk
      simp only [List.mem_append] at h ⊢
      exact h.elim (fun h => Or.inl (key isR wr hR q h)) Or.inr
    obtain ⟨i, hi⟩ := List.getElem?_of_mem this
    exact hP i q hi
  · have : q ∈ X ++ Z := List.mem_append_left _ (key isC wc hC q (List.mem_of_getElem? hk))
    obtain ⟨i, hi⟩ := List.getElem?_of_mem this
    exact hP i q hi
  · have h1 : va_D A (wr ++ wc) := hD.left.sub (isR ++ isC) hn (by rw [List.map_append, List.map_append, hR, hC])
    refine va_D.app (va_D.app h1.left hD.right (fun i j p q hi hj => ?_)) h1.right (fun i j p q hi hj => ?_)
    · obtain ⟨i2, hi2⟩ := List.getElem?_of_mem (key isR wr hR p (List.mem_of_getElem? hi))
      exact hD.cross hi2 hj
    · obtain ⟨j2, hj2⟩ := List.getElem?_of_mem (key isC wc hC q (List.mem_of_getElem? hj))
      by_cases hw : i < wr.length
      · rw [List.getElem?_append_left hw] at hi
        exact h1.cross hi hj
      · rw [List.getElem?_append_right (by omega)] at hi
        exact fun e => hD.cross hj2 hi e.symm
theorem nz_b (x : Int32) (h : 0 ≤ x.toInt ∧ x.toInt ≤ 1) : narrow .boolean (.int x) = .int x := by
  have : x = 0 ∨ x = 1 := by
    rcases (show x.toInt = 0 ∨ x.toInt = 1 by omega) with h | h
    · exact Or.inl (ti_inj h)
    · exact Or.inr (ti_inj h)
  rcases this with rfl | rfl <;> rfl
theorem fz_b (x : Int32) (h : 0 ≤ x.toInt ∧ x.toInt ≤ 1) : fits .boolean (.int x) = true := by
  have : x = 0 ∨ x = 1 := by
    rcases (show x.toInt = 0 ∨ x.toInt = 1 by omega) with h | h
    · exact Or.inl (ti_inj h)
    · exact Or.inr (ti_inj h)
  rcases this with rfl | rfl <;> rfl
/-- an int comes back, of which P holds, and the world is wc -/
def oI (P : Int32 → Prop) (wc : va_W) : Option Value → va_W → Prop := fun v w => ∃ r : Int32, v = some (.int r) ∧ P r ∧ w = wc
def oV (wc : va_W) : Option Value → va_W → Prop := fun v w => v = none ∧ w = wc
/-- byte k of an array from a place on, unsigned -/
def lk (f : Nat → Int32) (pl k : Nat) : Nat := u8 (f (pl + k))
theorem lk_lt (f : Nat → Int32) (pl k : Nat) : lk f pl k < 256 := u8_lt _
/-- the number that dg places from fr on tell -/
def numI (b : Nat → Nat) (fr : Nat) : Nat → Int
  | 0 => 0
  | k + 1 => numI b fr k * 10 + (b (fr + k) : Int) - 48
theorem numI_bd {b : Nat → Nat} (hb : ∀ j, b j < 256) (fr : Nat) : ∀ k, k ≤ 5 → -600000 ≤ numI b fr k ∧ numI b fr k ≤ 2400000
  | 0, _ => by simp [numI]
  | 1, _ => by have := hb fr; simp only [numI, Nat.add_zero]; omega
  | 2, _ => by have := hb fr; have := hb (fr + 1); simp only [numI, Nat.add_zero]; omega
  | 3, _ => by have := hb fr; have := hb (fr + 1); have := hb (fr + 2); simp only [numI, Nat.add_zero]; omega
  | 4, _ => by have := hb fr; have := hb (fr + 1); have := hb (fr + 2); have := hb (fr + 3); simp only [numI, Nat.add_zero]; omega
  | 5, _ => by have := hb fr; have := hb (fr + 1); have := hb (fr + 2); have := hb (fr + 3); have := hb (fr + 4); simp only [numI, Nat.add_zero]; omega
theorem Met.post {l : Launch} {E : GE} {y : MethodName} {w0 : List Cond} {rm : Room} {Pc : Array Value → State → Prop} {p1 p2 : Option Value → va_W → Prop} {ws : va_W} {sz mc ms : Nat} {free : Addr → Prop} (h : Met l y w0 rm Pc (Qs E p1 ws sz) mc ms free) (hp : ∀ v w, p1 v w → p2 v w) : Met l y w0 rm Pc (Qs E p2 ws sz) mc ms free := by
  intro p e ha hc hk s m args below hf happ hP hz
  obtain ⟨k, o, h1, h2, h3, ⟨⟨v, w', q1, q2, q3, q4⟩, hF⟩, h5⟩ := h p e ha hc hk s m args below hf happ hP hz
  exact ⟨k, o, h1, h2, h3, ⟨⟨v, w', q1, hp v w' q2, q3, q4⟩, hF⟩, h5⟩
theorem g_lookup {E : GE} {g : Cf} {cc : ByteArray} {own : String} {ret : Option FieldType} {ws : va_W} {cells slots pc : Nat} {lv : List (Nat × Value)} {st : List Value} (C : Cx E g cc own ret) {dflt : Int} {ps : Array (Int × Int)} {len : Nat} {x : Int32} {off : Int} (tgt : Nat) (d : decode cc pc = .ok (.lookupswitch dflt ps, len)) (hp : (ps.toList.zip (ps.toList.drop 1)).all (fun (a, next) => a.1 < next.1) = true) (ho : Op.lookupswitch.offset ps.toList dflt x.toInt = off) (ht : (pc : Int) + off = (tgt : Int)) (kk : G E g ws cells slots tgt lv st) : G E g ws cells slots pc lv (.int x :: st) :=
  fun H locs ls hl hP hD hS => lv_lookup C.1 C.2.1 d hp ho ht (kk H locs ls hl hP hD hS)
