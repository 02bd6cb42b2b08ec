/-! numbers: every int by its value (toInt) -/
theorem bm_id {x : Int} (h1 : -2147483648 ≤ x) (h2 : x < 2147483648) : x.bmod (2 ^ 32) = x := by
  rw [Int.bmod_def]
  have : ((2 ^ 32 : Nat) : Int) = 4294967296 := by decide
  rw [this]
  split <;> omega
theorem ti_inj {x y : Int32} (h : x.toInt = y.toInt) : x = y := Int32.toInt_inj.mp h
theorem ti_lo (x : Int32) : -2147483648 ≤ x.toInt := by have := Int32.le_toInt x; omega
theorem ti_hi (x : Int32) : x.toInt < 2147483648 := by have := Int32.toInt_lt x; omega
theorem ti_nI {n : Nat} (h : n < 2147483648) : (nI n).toInt = (n : Int) := nI_toInt (by omega)
theorem ti_ofN {x : Int32} {n : Nat} (h : x.toInt = (n : Int)) : x = nI n := ti_inj (by rw [ti_nI]; exact h; have := ti_hi x; omega)
theorem ti_clamp {x : Int32} {n : Nat} (h : x.toInt = (n : Int)) : x.toNatClampNeg = n := by
  have : x.toNatClampNeg = x.toInt.toNat := rfl
  rw [this, h]; rfl
theorem ti_in {x : Int32} {k n : Nat} (h : x.toInt = (k : Int)) (hk : k < n) : vp_in x n := by
  rw [vp_in_iff]; omega
/-- the unsigned value of an int's lowest byte -/
def u8 (x : Int32) : Nat := x.toBitVec.toNat % 256
theorem u8_lt (x : Int32) : u8 x < 256 := Nat.mod_lt _ (by decide)
/-- the signed byte (as an int) of an unsigned one -/
def sB (n : Nat) : Int32 := (Int32.ofNat n).toInt8.toInt32
theorem ti_and255 (x : Int32) : (x &&& 255).toInt = (u8 x : Int) := by
  rw [pk_and x (m := 255) 8 (by decide)]
  exact ti_nI (by have := u8_lt x; unfold u8 at this; omega)
theorem sB_of (x : Int32) : x.toInt8.toInt32 = sB (u8 x) := by
  unfold sB u8
  have h : (x : Int32).toInt8 = (Int32.ofNat (x.toBitVec.toNat % 256)).toInt8 := by
    apply Int8.toBitVec_inj.mp
    apply BitVec.eq_of_toNat_eq
    rw [Int32.toBitVec_toInt8, Int32.toBitVec_toInt8, BitVec.signExtend_eq_setWidth_of_le _ (by decide), BitVec.signExtend_eq_setWidth_of_le _ (by decide)]
    simp [Int32.toBitVec_ofNat]
  rw [h]
theorem u8_sB {n : Nat} (h : n < 256) : u8 (sB n) = n := by
  have : ∀ m : Fin 256, u8 (sB m.val) = m.val := by decide +kernel
  exact this ⟨n, h⟩
theorem vn_byte (x : Int32) : vp_nar .byte x = sB (u8 x) := by rw [vp_nar_byte, sB_of]
theorem ti_add {x y : Int32} (h1 : -2147483648 ≤ x.toInt + y.toInt) (h2 : x.toInt + y.toInt < 2147483648) : (x + y).toInt = x.toInt + y.toInt := by
  rw [Int32.toInt_add]; exact bm_id h1 h2
theorem ti_sub {x y : Int32} (h1 : -2147483648 ≤ x.toInt - y.toInt) (h2 : x.toInt - y.toInt < 2147483648) : (x - y).toInt = x.toInt - y.toInt := by
  rw [Int32.toInt_sub]; exact bm_id h1 h2
theorem ti_mul {x y : Int32} {p : Int} (hp : x.toInt * y.toInt = p) (h1 : -2147483648 ≤ p) (h2 : p < 2147483648) : (x * y).toInt = p := by
  rw [Int32.toInt_mul, hp]; exact bm_id h1 h2
theorem ti_div {x y : Int32} (hx : 0 ≤ x.toInt) (hy : 0 < y.toInt) : (x / y).toInt = x.toInt / y.toInt := by
  rw [Int32.toInt_div, Int.tdiv_eq_ediv_of_nonneg hx]
  refine bm_id ?_ ?_
  · have := Int.ediv_nonneg hx (Int.le_of_lt hy); omega
  · have := Int.ediv_le_self y.toInt hx; have := ti_hi x; omega
section GN
variable {E : GE} {g : Cf} {cc : ByteArray} {own : String} {ret : Option FieldType} {ws : va_W} {cells slots pc : Nat} {lv : List (Nat × Value)} {st : List Value}
theorem g_iadd (C : Cx E g cc own ret) {x y : Int32} (d : decode cc pc = .ok (.iadd, 1)) (h : -2147483648 ≤ x.toInt + y.toInt ∧ x.toInt + y.toInt < 2147483648) (kk : ∀ z : Int32, z.toInt = x.toInt + y.toInt → G E g ws cells slots (pc + 1) lv (.int z :: st)) : G E g ws cells slots pc lv (.int y :: .int x :: st) :=
  fun H locs ls hl hP hD hS => lv_iadd C.1 C.2.1 d (kk _ (ti_add h.1 h.2) H locs ls hl hP hD hS)
theorem g_isub (C : Cx E g cc own ret) {x y : Int32} (d : decode cc pc = .ok (.isub, 1)) (h : -2147483648 ≤ x.toInt - y.toInt ∧ x.toInt - y.toInt < 2147483648) (kk : ∀ z : Int32, z.toInt = x.toInt - y.toInt → G E g ws cells slots (pc + 1) lv (.int z :: st)) : G E g ws cells slots pc lv (.int y :: .int x :: st) :=
  fun H locs ls hl hP hD hS => lv_isub C.1 C.2.1 d (kk _ (ti_sub h.1 h.2) H locs ls hl hP hD hS)
theorem g_imul (C : Cx E g cc own ret) {x y : Int32} (d : decode cc pc = .ok (.imul, 1)) (r : Int) (hr : x.toInt * y.toInt = r) (h : -2147483648 ≤ r ∧ r < 2147483648) (kk : ∀ z : Int32, z.toInt = r → G E g ws cells slots (pc + 1) lv (.int z :: st)) : G E g ws cells slots pc lv (.int y :: .int x :: st) :=
  fun H locs ls hl hP hD hS => lv_imul C.1 C.2.1 d (kk _ (ti_mul hr h.1 h.2) H locs ls hl hP hD hS)
theorem g_idiv (C : Cx E g cc own ret) {x y : Int32} (d : decode cc pc = .ok (.idiv, 1)) (n : Int) (hy : y.toInt = n) (h : 0 ≤ x.toInt ∧ 0 < n) (kk : ∀ z : Int32, z.toInt = x.toInt / n → G E g ws cells slots (pc + 1) lv (.int z :: st)) : G E g ws cells slots pc lv (.int y :: .int x :: st) :=
  fun H locs ls hl hP hD hS => lv_idiv C.1 C.2.1 d (fun q => by rw [q] at hy; have : (0 : Int32).toInt = 0 := rfl; omega) (kk _ (by rw [ti_div h.1 (by omega), hy]) H locs ls hl hP hD hS)
theorem g_irem (C : Cx E g cc own ret) {x y : Int32} (d : decode cc pc = .ok (.irem, 1)) (n : Int) (hy : y.toInt = n) (h : 0 ≤ x.toInt ∧ 0 < n) (kk : ∀ z : Int32, z.toInt = x.toInt % n → G E g ws cells slots (pc + 1) lv (.int z :: st)) : G E g ws cells slots pc lv (.int y :: .int x :: st) :=
  fun H locs ls hl hP hD hS => lv_irem C.1 C.2.1 d (fun q => by rw [q] at hy; have : (0 : Int32).toInt = 0 := rfl; omega) (kk _ (by
    have hd := ti_div h.1 (show 0 < y.toInt by omega)
    have h3 : x.toInt / y.toInt * y.toInt + x.toInt % y.toInt = x.toInt := Int.ediv_mul_add_emod x.toInt y.toInt
    have h4 := Int.emod_nonneg x.toInt (show y.toInt ≠ 0 by omega)
    have h5 := Int.emod_lt_of_pos x.toInt (show 0 < y.toInt by omega)
    have h6 := ti_hi x
    have h7 : 0 ≤ x.toInt / y.toInt * y.toInt := Int.mul_nonneg (Int.ediv_nonneg h.1 (by omega)) (by omega)
    have hm : (x / y * y).toInt = x.toInt - x.toInt % y.toInt := ti_mul (by rw [hd]; omega) (by omega) (by omega)
    rw [ti_sub (by rw [hm]; omega) (by rw [hm]; omega), hm, hy]
    omega) H locs ls hl hP hD hS)
theorem g_iand255 (C : Cx E g cc own ret) {x y : Int32} (d : decode cc pc = .ok (.iand, 1)) (hy : y.toInt = 255) (kk : ∀ z : Int32, z.toInt = (u8 x : Int) → u8 x < 256 → G E g ws cells slots (pc + 1) lv (.int z :: st)) : G E g ws cells slots pc lv (.int y :: .int x :: st) := by
  have : y = 255 := ti_inj hy
  subst this
  exact fun H locs ls hl hP hD hS => lv_iand C.1 C.2.1 d (kk _ (ti_and255 x) (u8_lt x) H locs ls hl hP hD hS)
def sh8 (x : Int32) : Int32 := x >>> ((8 : Int32) &&& 31)
theorem g_ishr8 (C : Cx E g cc own ret) {x y : Int32} (d : decode cc pc = .ok (.ishr, 1)) (hy : y.toInt = 8) (kk : ∀ z : Int32, z = sh8 x → G E g ws cells slots (pc + 1) lv (.int z :: st)) : G E g ws cells slots pc lv (.int y :: .int x :: st) := by
  have : y = 8 := ti_inj hy
  subst this
  exact fun H locs ls hl hP hD hS => lv_ishr C.1 C.2.1 d (kk _ rfl H locs ls hl hP hD hS)
theorem g_i2b (C : Cx E g cc own ret) {x : Int32} (d : decode cc pc = .ok (.i2b, 1)) (kk : ∀ z : Int32, z = sB (u8 x) → G E g ws cells slots (pc + 1) lv (.int z :: st)) : G E g ws cells slots pc lv (.int x :: st) :=
  fun H locs ls hl hP hD hS => lv_i2b C.1 C.2.1 d rfl (kk _ (sB_of x) H locs ls hl hP hD hS)
theorem g_i2l (C : Cx E g cc own ret) {x : Int32} (d : decode cc pc = .ok (.i2l, 1)) (kk : G E g ws cells slots (pc + 1) lv (.long x.toInt64 :: st)) : G E g ws cells slots pc lv (.int x :: st) :=
  fun H locs ls hl hP hD hS => lv_i2l C.1 C.2.1 d rfl (kk H locs ls hl hP hD hS)
theorem g_iinc (C : Cx E g cc own ret) {i : Nat} {n : Int} {x : Int32} (d : decode cc pc = .ok (.iinc i n, 3)) (j : Nat) (hj : lv[j]? = some (i, .int x)) (hi : i < g.n) (hn : (Int32.ofInt n).toInt = n) (h : -2147483648 ≤ x.toInt + n ∧ x.toInt + n < 2147483648) (kk : ∀ z : Int32, z.toInt = x.toInt + n → G E g ws cells slots (pc + 3) (lv_put lv i (.int z)) st) : G E g ws cells slots pc lv st :=
  fun H locs ls hl hP hD hS => lv_iinc C.1 C.2.1 d hl hj rfl hi rfl (fun ls' hl' => kk _ (by rw [ti_add (by rw [hn]; exact h.1) (by rw [hn]; exact h.2), hn]) H locs ls' hl' hP hD hS)
theorem g_icmp_lt (C : Cx E g cc own ret) {x y : Int32} {off : Int} (tgt : Nat) (d : decode cc pc = .ok (.if_icmp .lt off, 3)) (ht : (pc : Int) + off = (tgt : Int)) (kt : x.toInt < y.toInt → G E g ws cells slots tgt lv st) (kf : y.toInt ≤ x.toInt → G E g ws cells slots (pc + 3) lv st) : G E g ws cells slots pc lv (.int y :: .int x :: st) :=
  fun H locs ls hl hP hD hS => lv_icmp_lt C.1 C.2.1 d ht (fun q => kt (Int32.lt_iff_toInt_lt.mp q) H locs ls hl hP hD hS) (fun q => kf (Int.not_lt.mp (fun z => q (Int32.lt_iff_toInt_lt.mpr z))) H locs ls hl hP hD hS)
theorem g_icmp_ge (C : Cx E g cc own ret) {x y : Int32} {off : Int} (tgt : Nat) (d : decode cc pc = .ok (.if_icmp .ge off, 3)) (ht : (pc : Int) + off = (tgt : Int)) (kt : y.toInt ≤ x.toInt → G E g ws cells slots tgt lv st) (kf : x.toInt < y.toInt → G E g ws cells slots (pc + 3) lv st) : G E g ws cells slots pc lv (.int y :: .int x :: st) :=
  fun H locs ls hl hP hD hS => lv_icmp_ge C.1 C.2.1 d ht (fun q => kt (Int32.le_iff_toInt_le.mp q) H locs ls hl hP hD hS) (fun q => kf (Int.not_le.mp (fun z => q (Int32.le_iff_toInt_le.mpr z))) H locs ls hl hP hD hS)
theorem g_icmp_gt (C : Cx E g cc own ret) {x y : Int32} {off : Int} (tgt : Nat) (d : decode cc pc = .ok (.if_icmp .gt off, 3)) (ht : (pc : Int) + off = (tgt : Int)) (kt : y.toInt < x.toInt → G E g ws cells slots tgt lv st) (kf : x.toInt ≤ y.toInt → G E g ws cells slots (pc + 3) lv st) : G E g ws cells slots pc lv (.int y :: .int x :: st) :=
  fun H locs ls hl hP hD hS => lv_icmp_gt C.1 C.2.1 d ht (fun q => kt (Int32.lt_iff_toInt_lt.mp q) H locs ls hl hP hD hS) (fun q => kf (Int.not_lt.mp (fun z => q (Int32.lt_iff_toInt_lt.mpr z))) H locs ls hl hP hD hS)
theorem g_icmp_le (C : Cx E g cc own ret) {x y : Int32} {off : Int} (tgt : Nat) (d : decode cc pc = .ok (.if_icmp .le off, 3)) (ht : (pc : Int) + off = (tgt : Int)) (kt : x.toInt ≤ y.toInt → G E g ws cells slots tgt lv st) (kf : y.toInt < x.toInt → G E g ws cells slots (pc + 3) lv st) : G E g ws cells slots pc lv (.int y :: .int x :: st) :=
  fun H locs ls hl hP hD hS => lv_icmp_le C.1 C.2.1 d ht (fun q => kt (Int32.le_iff_toInt_le.mp q) H locs ls hl hP hD hS) (fun q => kf (Int.not_le.mp (fun z => q (Int32.le_iff_toInt_le.mpr z))) H locs ls hl hP hD hS)
theorem g_icmp_eq (C : Cx E g cc own ret) {x y : Int32} {off : Int} (tgt : Nat) (d : decode cc pc = .ok (.if_icmp .eq off, 3)) (ht : (pc : Int) + off = (tgt : Int)) (kt : x.toInt = y.toInt → G E g ws cells slots tgt lv st) (kf : ¬ x.toInt = y.toInt → G E g ws cells slots (pc + 3) lv st) : G E g ws cells slots pc lv (.int y :: .int x :: st) :=
  fun H locs ls hl hP hD hS => lv_icmp_eq C.1 C.2.1 d ht (fun q => kt (by rw [q]) H locs ls hl hP hD hS) (fun q => kf (fun z => q (ti_inj z)) H locs ls hl hP hD hS)
theorem g_icmp_ne (C : Cx E g cc own ret) {x y : Int32} {off : Int} (tgt : Nat) (d : decode cc pc = .ok (.if_icmp .ne off, 3)) (ht : (pc : Int) + off = (tgt : Int)) (kt : ¬ x.toInt = y.toInt → G E g ws cells slots tgt lv st) (kf : x.toInt = y.toInt → G E g ws cells slots (pc + 3) lv st) : G E g ws cells slots pc lv (.int y :: .int x :: st) :=
  fun H locs ls hl hP hD hS => lv_icmp_ne C.1 C.2.1 d ht (fun q => kt (fun z => q (ti_inj z)) H locs ls hl hP hD hS) (fun q => kf (by rw [q]) H locs ls hl hP hD hS)
theorem g_if_lt (C : Cx E g cc own ret) {x : Int32} {off : Int} (tgt : Nat) (d : decode cc pc = .ok (.ifCond .lt off, 3)) (ht : (pc : Int) + off = (tgt : Int)) (kt : x.toInt < 0 → G E g ws cells slots tgt lv st) (kf : 0 ≤ x.toInt → G E g ws cells slots (pc + 3) lv st) : G E g ws cells slots pc lv (.int x :: st) :=
  fun H locs ls hl hP hD hS => lv_if_lt C.1 C.2.1 d ht (fun q => kt (Int32.lt_iff_toInt_lt.mp q) H locs ls hl hP hD hS) (fun q => kf (Int.not_lt.mp (fun z => q (Int32.lt_iff_toInt_lt.mpr z))) H locs ls hl hP hD hS)
theorem g_if_ge (C : Cx E g cc own ret) {x : Int32} {off : Int} (tgt : Nat) (d : decode cc pc = .ok (.ifCond .ge off, 3)) (ht : (pc : Int) + off = (tgt : Int)) (kt : 0 ≤ x.toInt → G E g ws cells slots tgt lv st) (kf : x.toInt < 0 → G E g ws cells slots (pc + 3) lv st) : G E g ws cells slots pc lv (.int x :: st) :=
  fun H locs ls hl hP hD hS => lv_if_ge C.1 C.2.1 d ht (fun q => kt (Int32.le_iff_toInt_le.mp q) H locs ls hl hP hD hS) (fun q => kf (Int.not_le.mp (fun z => q (Int32.le_iff_toInt_le.mpr z))) H locs ls hl hP hD hS)
theorem g_if_gt (C : Cx E g cc own ret) {x : Int32} {off : Int} (tgt : Nat) (d : decode cc pc = .ok (.ifCond .gt off, 3)) (ht : (pc : Int) + off = (tgt : Int)) (kt : 0 < x.toInt → G E g ws cells slots tgt lv st) (kf : x.toInt ≤ 0 → G E g ws cells slots (pc + 3) lv st) : G E g ws cells slots pc lv (.int x :: st) :=
  fun H locs ls hl hP hD hS => lv_if_gt C.1 C.2.1 d ht (fun q => kt (Int32.lt_iff_toInt_lt.mp q) H locs ls hl hP hD hS) (fun q => kf (Int.not_lt.mp (fun z => q (Int32.lt_iff_toInt_lt.mpr z))) H locs ls hl hP hD hS)
theorem g_if_le (C : Cx E g cc own ret) {x : Int32} {off : Int} (tgt : Nat) (d : decode cc pc = .ok (.ifCond .le off, 3)) (ht : (pc : Int) + off = (tgt : Int)) (kt : x.toInt ≤ 0 → G E g ws cells slots tgt lv st) (kf : 0 < x.toInt → G E g ws cells slots (pc + 3) lv st) : G E g ws cells slots pc lv (.int x :: st) :=
  fun H locs ls hl hP hD hS => lv_if_le C.1 C.2.1 d ht (fun q => kt (Int32.le_iff_toInt_le.mp q) H locs ls hl hP hD hS) (fun q => kf (Int.not_le.mp (fun z => q (Int32.le_iff_toInt_le.mpr z))) H locs ls hl hP hD hS)
theorem g_if_eq (C : Cx E g cc own ret) {x : Int32} {off : Int} (tgt : Nat) (d : decode cc pc = .ok (.ifCond .eq off, 3)) (ht : (pc : Int) + off = (tgt : Int)) (kt : x.toInt = 0 → G E g ws cells slots tgt lv st) (kf : ¬ x.toInt = 0 → G E g ws cells slots (pc + 3) lv st) : G E g ws cells slots pc lv (.int x :: st) :=
  fun H locs ls hl hP hD hS => lv_if_eq C.1 C.2.1 d ht (fun q => kt (by rw [q]; rfl) H locs ls hl hP hD hS) (fun q => kf (fun z => q (ti_inj z)) H locs ls hl hP hD hS)
theorem g_if_ne (C : Cx E g cc own ret) {x : Int32} {off : Int} (tgt : Nat) (d : decode cc pc = .ok (.ifCond .ne off, 3)) (ht : (pc : Int) + off = (tgt : Int)) (kt : ¬ x.toInt = 0 → G E g ws cells slots tgt lv st) (kf : x.toInt = 0 → G E g ws cells slots (pc + 3) lv st) : G E g ws cells slots pc lv (.int x :: st) :=
  fun H locs ls hl hP hD hS => lv_if_ne C.1 C.2.1 d ht (fun q => kt (fun z => q (ti_inj z)) H locs ls hl hP hD hS) (fun q => kf (by rw [q]; rfl) H locs ls hl hP hD hS)
/-! returns -/
theorem g_iret (C : Cx E g cc own ret) {post : Option Value → va_W → Prop} {ws0 : va_W} {mc ms : Nat} (F : Fi E g post ws0 mc ms) {x : Int32} (d : decode cc pc = .ok (.ireturn, 1)) {ty : FieldType} (hr : ret = some ty) (hn : narrow ty (.int x) = .int x) (hc : cells ≤ mc) (hs : slots ≤ ms) (hp : post (some (.int x)) ws) : G E g ws cells slots pc lv [.int x] := by
  intro H locs ls hl hP hD hS
  refine W.widen hc hs ?_
  show W g.p g.l g.e g.R g.s g.m g.a g.b g.me g.c H locs mc ms g.Q (F0 g.m pc ls [.int x])
  rw [F.2]
  rw [F.1] at hD hS
  exact W.zret C.1 C.2.1 (C.2.2.2.2.2.2.1.trans hr) hn (fun t ht hW => ⟨⟨_, ws, rfl, hp, by rw [ht]; exact hP, hD⟩, hS.F ht⟩) hS.2.2 d C.2.2.2.2.2.2.2.1
theorem g_vret (C : Cx E g cc own none) {post : Option Value → va_W → Prop} {ws0 : va_W} {mc ms : Nat} (F : Fi E g post ws0 mc ms) (d : decode cc pc = .ok (.return_, 1)) (hc : cells ≤ mc) (hs : slots ≤ ms) (hp : post none ws) : G E g ws cells slots pc lv [] := by
  intro H locs ls hl hP hD hS
  refine W.widen hc hs ?_
  show W g.p g.l g.e g.R g.s g.m g.a g.b g.me g.c H locs mc ms g.Q (F0 g.m pc ls [])
  rw [F.2]
  rw [F.1] at hD hS
  exact W.vret C.1 C.2.1 C.2.2.2.2.2.2.1 (fun t ht hW => ⟨⟨_, ws, rfl, hp, by rw [ht]; exact hP, hD⟩, hS.F ht⟩) hS.2.2 d C.2.2.2.2.2.2.2.1
theorem g_aret (C : Cx E g cc own ret) {post : Option Value → va_W → Prop} {ws0 : va_W} {mc ms : Nat} (F : Fi E g post ws0 mc ms) {v : Value} (d : decode cc pc = .ok (.areturn, 1)) {rt : FieldType} (hr : ret = some rt) (hrt : (∃ n, rt = .object n) ∨ ∃ t, rt = .array t) (hv : v = .null ∨ ∃ a, v = .ref a) (hc : cells ≤ mc) (hs : slots ≤ ms) (hp : post (some v) ws) : G E g ws cells slots pc lv [v] := by
  intro H locs ls hl hP hD hS
  refine W.widen hc hs ?_
  show W g.p g.l g.e g.R g.s g.m g.a g.b g.me g.c H locs mc ms g.Q (F0 g.m pc ls [v])
  rw [F.2]
  rw [F.1] at hD hS
  exact W.aret C.1 C.2.1 (C.2.2.2.2.2.2.1.trans hr) hrt hv (fun t ht hW => ⟨⟨_, ws, rfl, hp, by rw [ht]; exact hP, hD⟩, hS.F ht⟩) hS.2.2 d C.2.2.2.2.2.2.2.1
end GN
