/-! THE LAYER: values, memory, shape, the judgement z_R over the machine, contracts z_C. Places of cells are numbers 0..73; 200 is the script, 300+i the string constant i. -/
abbrev z_V : Type := Int ⊕ Int ⊕ Nat ⊕ Unit
abbrev aI (x : Int) : z_V := Sum.inl x
abbrev aL (x : Int) : z_V := Sum.inr (Sum.inl x)
abbrev aR (k : Nat) : z_V := Sum.inr (Sum.inr (Sum.inl k))
abbrev aU : z_V := Sum.inr (Sum.inr (Sum.inr ()))
abbrev z_M : Type := Nat → Nat → Int
def z_up (I : z_M) (k j : Nat) (v : Int) : z_M := fun a b => if a = k ∧ b = j then v else I a b
abbrev inI (x : Int) : Prop := -2147483648 ≤ x ∧ x ≤ 2147483647
abbrev inL (x : Int) : Prop := -9223372036854775808 ≤ x ∧ x ≤ 9223372036854775807
def i32 (x : Int) : Int := x.bmod 4294967296
def i64 (x : Int) : Int := x.bmod 18446744073709551616
def z_i (x : Int) : Int32 := Int32.ofInt x
def z_l (x : Int) : Int64 := Int64.ofInt x
def z_cv (ad : Nat → Nat) : z_V → Value
  | .inl x => .int (z_i x)
  | .inr (.inl x) => .long (z_l x)
  | .inr (.inr (.inl k)) => .ref (ad k)
  | .inr (.inr (.inr _)) => .null
def z_ca : z_V → Prop
  | .inl x => inI x
  | .inr (.inl x) => inL x
  | .inr (.inr _) => True
theorem z_iT {x : Int} (h : inI x) : (z_i x).toInt = x := Int32.toInt_ofInt_of_le (by omega) (by omega)
theorem z_lT {x : Int} (h : inL x) : (z_l x).toInt = x := Int64.toInt_ofInt_of_le (by omega) (by omega)
theorem i32_in (x : Int) : inI (i32 x) := by
  have h1 := Int.le_bmod (x := x) (m := 4294967296) (by decide)
  have h2 := Int.bmod_lt (x := x) (m := 4294967296) (by decide)
  unfold inI i32
  omega
theorem i64_in (x : Int) : inL (i64 x) := by
  have h1 := Int.le_bmod (x := x) (m := 18446744073709551616) (by decide)
  have h2 := Int.bmod_lt (x := x) (m := 18446744073709551616) (by decide)
  unfold inL i64
  omega
theorem i32_id {x : Int} (h : inI x) : i32 x = x := Int.bmod_eq_of_le (by omega) (by omega)
theorem i64_id {x : Int} (h : inL x) : i64 x = x := Int.bmod_eq_of_le (by omega) (by omega)
theorem z_i32 (x : Int) : z_i (i32 x) = z_i x := Int32.toInt_inj.mp (by simp [z_i, i32, Int32.size])
theorem z_i64 (x : Int) : z_l (i64 x) = z_l x := Int64.toInt_inj.mp (by simp [z_l, i64, Int64.size])
theorem z_iadd (a b : Int) : z_i a + z_i b = z_i (a + b) := Int32.toInt_inj.mp (by simp [z_i, Int32.size])
theorem z_isub (a b : Int) : z_i a - z_i b = z_i (a - b) := Int32.toInt_inj.mp (by simp [z_i, Int32.size])
theorem z_imul (a b : Int) : z_i a * z_i b = z_i (a * b) := Int32.toInt_inj.mp (by simp [z_i, Int32.size])
theorem z_ineg (a : Int) : - z_i a = z_i (-a) := Int32.toInt_inj.mp (by simp [z_i, Int32.size])
theorem z_ladd (a b : Int) : z_l a + z_l b = z_l (a + b) := Int64.toInt_inj.mp (by simp [z_l, Int64.size])
theorem z_lsub (a b : Int) : z_l a - z_l b = z_l (a - b) := Int64.toInt_inj.mp (by simp [z_l, Int64.size])
theorem z_lmul (a b : Int) : z_l a * z_l b = z_l (a * b) := Int64.toInt_inj.mp (by simp [z_l, Int64.size])
theorem z_ilt {a b : Int} (ha : inI a) (hb : inI b) : z_i a < z_i b ↔ a < b := by rw [Int32.lt_iff_toInt_lt, z_iT ha, z_iT hb]
theorem z_ile {a b : Int} (ha : inI a) (hb : inI b) : z_i a ≤ z_i b ↔ a ≤ b := by rw [Int32.le_iff_toInt_le, z_iT ha, z_iT hb]
theorem z_ieq {a b : Int} (ha : inI a) (hb : inI b) : z_i a = z_i b ↔ a = b := by rw [← Int32.toInt_inj, z_iT ha, z_iT hb]
theorem z_llt {a b : Int} (ha : inL a) (hb : inL b) : z_l a < z_l b ↔ a < b := by rw [Int64.lt_iff_toInt_lt, z_lT ha, z_lT hb]
theorem z_leq {a b : Int} (ha : inL a) (hb : inL b) : z_l a = z_l b ↔ a = b := by rw [← Int64.toInt_inj, z_lT ha, z_lT hb]
theorem z_i0 : z_i 0 = 0 := by decide +kernel
theorem z_l0 : z_l 0 = 0 := by decide +kernel
theorem z_inI_inL {x : Int} (h : inI x) : inL x := by unfold inI at h; unfold inL; omega
theorem z_i2l {x : Int} (h : inI x) : (z_i x).toInt64 = z_l x := Int64.toInt_inj.mp (by rw [Int32.toInt_toInt64, z_iT h, z_lT (z_inI_inL h)])
theorem z_l2i (x : Int) : (z_l x).toInt32 = z_i x := Int64.toInt32_ofInt
theorem z_i2b {x : Int} (h : -128 ≤ x ∧ x ≤ 127) : (z_i x).toInt8.toInt32 = z_i x := by
  rw [z_i, Int32.toInt8_ofInt]
  exact Int8.toInt32_ofInt (by rw [show Int8.minValue.toInt = -128 from by decide]; exact h.1) (by rw [show Int8.maxValue.toInt = 127 from by decide]; exact h.2)
theorem z_tn {x : Int} (h : inI x) : (z_i x).toNatClampNeg = x.toNat := by rw [Int32.toNatClampNeg, z_iT h]
theorem z_vp {x : Int} {n : Nat} (h : inI x) (h0 : 0 ≤ x) (h1 : x < n) : vp_in (z_i x) n := by rw [vp_in_iff, z_iT h]; exact ⟨h0, h1⟩
theorem z_rem {a b : Int} (ha : inI a) (hb : inI b) : z_i a - z_i a / z_i b * z_i b = z_i (a.tmod b) := by
  apply Int32.toInt_inj.mp
  rw [rem_toInt, z_iT ha, z_iT hb]
  symm
  apply z_iT
  have h1 := Int.natAbs_tmod a b
  have h2 : (a.natAbs % b.natAbs) ≤ a.natAbs := Nat.mod_le _ _
  unfold inI at ha ⊢
  by_cases hz : 0 ≤ a
  · have h3 : 0 ≤ a.tmod b := Int.tmod_nonneg b hz
    omega
  · have h3 : a.tmod b ≤ 0 := by
      have h4 := Int.tmod_nonneg b (show 0 ≤ -a by omega)
      rw [Int.neg_tmod] at h4
      omega
    omega
