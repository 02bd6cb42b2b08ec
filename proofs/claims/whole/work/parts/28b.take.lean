theorem sl_drop (b : Nat → Nat) (o : Nat) : ∀ n, (sl b o (n + 2)).drop 2 = sl b (o + 2) n
  | 0 => by simp [sl]
  | n + 1 => by
    show (sl b o (n + 2) ++ [b (o + (n + 2))]).drop 2 = sl b (o + 2) n ++ [b (o + 2 + n)]
    rw [List.drop_append_of_le_length (by rw [sl_len]; omega), sl_drop b o n, show o + (n + 2) = o + 2 + n by omega]
theorem tk_FR {b : Nat → Nat} {fr la tag p0 k : Nat} {y i1 i2 s u : Int32} {q n : Nat} {f2 : Nat → Int32} (hc : (tag ≤ 9 ∧ p0 = fr) ∨ (9 < tag ∧ p0 = fr + 2 ∧ i1.toInt = (b fr : Int) ∧ i2.toInt = (b (fr + 1) : Int))) (hk : p0 + k = la) (hy : y.toInt = (tag : Int)) (hs : s.toInt = (k : Int)) (hB : Bs f2 0 (sl b p0 k)) (hu : u.toInt = (c31 (sl b p0 k) : Int)) (hl : k ≤ n) : FR (y, i1, i2, s, u, q, n, f2) tag (sl b fr (la - fr)) := by
  have hb : bdy tag (sl b fr (la - fr)) = sl b p0 k := by
    rcases hc with ⟨h9, rfl⟩ | ⟨h9, rfl, _, _⟩
    · rw [bdy_c h9, show la - p0 = k by omega]
    · rw [bdy_o h9, show la - fr = k + 2 by omega, sl_drop]
  unfold FR
  dsimp only
  rw [hb, sl_len]
  refine ⟨hy, hs, hB, hu, hl, fun h9 => ?_⟩
  rcases hc with ⟨_, _⟩ | ⟨_, rfl, h1, h2⟩
  · omega
  · rw [sl_get (by omega), sl_get (by omega)]
    exact ⟨h1, h2⟩
theorem tk_sn {b : Nat → Nat} {p0 k : Nat} {x : Int32} (e : x.toInt = (b (p0 + k) : Int)) (hb : b (p0 + k) < 256) : sl b p0 (k + 1) = sl b p0 k ++ [u8 x] := by
  rw [u8_of e hb]; rfl
