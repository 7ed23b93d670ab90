/-! facts on words for the rules -/
theorem z_remin {a b : Int} (ha : inI a) : inI (a.tmod b) := by
  have h1 := Int.natAbs_tmod a b
  have h2 : (a.natAbs % b.natAbs) ≤ a.natAbs := Nat.mod_le _ _
  unfold inI at ha ⊢
  by_cases hz : 0 ≤ a
  · have h3 : 0 ≤ a.tmod b := Int.tmod_nonneg b hz
    omega
  · have h3 : a.tmod b ≤ 0 := by
      have h4 := Int.tmod_nonneg b (show 0 ≤ -a by omega)
      rw [Int.neg_tmod] at h4
      omega
    omega
theorem z_nat {x : Int} (h : 0 ≤ x) : ∃ n : Nat, x = (n : Int) := ⟨x.toNat, by omega⟩
theorem z_iN (n : Nat) : z_i (n : Int) = nI n := by
  unfold z_i nI
  exact Int32.ofInt_eq_ofNat
theorem z_lN (n : Nat) : z_l (n : Int) = lN n := by
  unfold z_l lN
  exact Int64.ofInt_eq_ofNat
theorem z_ldivE {x y : Int} (hx : inL x) (hy : inL y) (h0 : 0 ≤ x) (h1 : 0 < y) : z_l x / z_l y = z_l (x / y) := by
  obtain ⟨a, rfl⟩ := z_nat h0
  obtain ⟨b, rfl⟩ := z_nat (Int.le_of_lt h1)
  rw [z_lN, z_lN, pk_lDiv (by unfold inL at hx; omega) (by omega) (by unfold inL at hy; omega), ← z_lN]
  rfl
theorem z_ldivin {x y : Int} (hx : inL x) (h0 : 0 ≤ x) (h1 : 0 < y) : inL (x / y) := by
  have h2 := Int.ediv_nonneg h0 (Int.le_of_lt h1)
  have h3 := Int.ediv_le_self y h0
  unfold inL at hx ⊢
  omega
theorem z_lremE {x y : Int} (hx : inL x) (hy : inL y) (h0 : 0 ≤ x) (h1 : 0 < y) : z_l x - z_l x / z_l y * z_l y = z_l (x % y) := by
  obtain ⟨a, rfl⟩ := z_nat h0
  obtain ⟨b, rfl⟩ := z_nat (Int.le_of_lt h1)
  rw [z_lN, z_lN, pk_lRem (by unfold inL at hx; omega) (by omega) (by unfold inL at hy; omega), ← z_lN]
  rfl
theorem z_lremin {x y : Int} (hx : inL x) (h0 : 0 ≤ x) (h1 : 0 < y) : inL (x % y) := by
  obtain ⟨a, rfl⟩ := z_nat h0
  obtain ⟨b, rfl⟩ := z_nat (Int.le_of_lt h1)
  have := Nat.mod_le a b
  unfold inL at hx ⊢
  omega
theorem z_lcmpE {x y : Int} (hx : inL x) (hy : inL y) : lg_cmp (z_l x) (z_l y) = z_i (if y < x then 1 else if x = y then 0 else -1) := by
  unfold lg_cmp
  by_cases h1 : y < x
  · rw [if_pos ((z_llt hy hx).mpr h1), if_pos h1]; rfl
  · rw [if_neg (fun q => h1 ((z_llt hy hx).mp q)), if_neg h1]
    by_cases h2 : x = y
    · rw [if_pos ((z_leq hx hy).mpr h2), if_pos h2]; rfl
    · rw [if_neg (fun q => h2 ((z_leq hx hy).mp q)), if_neg h2]; rfl
theorem z_lcmpin (x y : Int) : inI (if y < x then 1 else if x = y then 0 else -1) := by
  split
  · decide
  · split <;> decide
theorem z_natin {n : Nat} (h : n < 2147483648) : inI (n : Int) := by unfold inI; omega
theorem z_natinL {n : Nat} (h : n < 9223372036854775808) : inL (n : Int) := by unfold inL; omega
theorem z_iandE (a b : Nat) : z_i (a : Int) &&& z_i (b : Int) = z_i ((a &&& b : Nat) : Int) := by
  rw [z_iN, z_iN, z_iN]
  apply Int32.toBitVec_inj.mp
  simp [nI, Int32.toBitVec_ofNat', BitVec.ofNat_and]
theorem z_iorE (a b : Nat) : z_i (a : Int) ||| z_i (b : Int) = z_i ((a ||| b : Nat) : Int) := by
  rw [z_iN, z_iN, z_iN]
  apply Int32.toBitVec_inj.mp
  simp [nI, Int32.toBitVec_ofNat', BitVec.ofNat_or]
theorem z_ixorE (a b : Nat) : z_i (a : Int) ^^^ z_i (b : Int) = z_i ((a ^^^ b : Nat) : Int) := by
  rw [z_iN, z_iN, z_iN]
  apply Int32.toBitVec_inj.mp
  simp [nI, Int32.toBitVec_ofNat', BitVec.ofNat_xor]
theorem z_landE (a b : Nat) : z_l (a : Int) &&& z_l (b : Int) = z_l ((a &&& b : Nat) : Int) := by
  rw [z_lN, z_lN, z_lN]
  apply Int64.toBitVec_inj.mp
  simp [lN, Int64.toBitVec_ofNat', BitVec.ofNat_and]
theorem z_lorE (a b : Nat) : z_l (a : Int) ||| z_l (b : Int) = z_l ((a ||| b : Nat) : Int) := by
  rw [z_lN, z_lN, z_lN]
  apply Int64.toBitVec_inj.mp
  simp [lN, Int64.toBitVec_ofNat', BitVec.ofNat_or]
theorem z_iandin {a b : Nat} (ha : inI (a : Int)) (hb : inI (b : Int)) : inI ((a &&& b : Nat) : Int) := by
  have := Nat.and_le_left (n := a) (m := b)
  unfold inI at ha ⊢
  omega
theorem z_iorin {a b : Nat} (ha : inI (a : Int)) (hb : inI (b : Int)) : inI ((a ||| b : Nat) : Int) :=
  z_natin (Nat.or_lt_two_pow (n := 31) (by unfold inI at ha; omega) (by unfold inI at hb; omega))
theorem z_ixorin {a b : Nat} (ha : inI (a : Int)) (hb : inI (b : Int)) : inI ((a ^^^ b : Nat) : Int) :=
  z_natin (Nat.xor_lt_two_pow (n := 31) (by unfold inI at ha; omega) (by unfold inI at hb; omega))
theorem z_landin {a b : Nat} (ha : inL (a : Int)) (hb : inL (b : Int)) : inL ((a &&& b : Nat) : Int) := by
  have := Nat.and_le_left (n := a) (m := b)
  unfold inL at ha ⊢
  omega
theorem z_lorin {a b : Nat} (ha : inL (a : Int)) (hb : inL (b : Int)) : inL ((a ||| b : Nat) : Int) :=
  z_natinL (Nat.or_lt_two_pow (n := 63) (by unfold inL at ha; omega) (by unfold inL at hb; omega))
theorem z_iandmE (x : Int) {n : Nat} (hn : n < 31) : z_i x &&& z_i (2 ^ n - 1) = z_i (x % 2 ^ n) := by
  have hp : (1 : Nat) ≤ 2 ^ n := Nat.one_le_two_pow
  have hlt : (2 : Nat) ^ n < 2 ^ 31 := Nat.pow_lt_pow_right (by decide) hn
  have e : ((2 : Int) ^ n - 1) = ((2 ^ n - 1 : Nat) : Int) := by
    have h3 : ((2 ^ n : Nat) : Int) = (2 : Int) ^ n := by simp
    omega
  rw [e, z_iN, pk_and (z_i x) (m := nI (2 ^ n - 1)) n (pk_tn (by omega)), ← z_iN]
  congr 1
  have h1 : ((z_i x).toBitVec.toNat : Int) = x % 4294967296 := by
    unfold z_i
    rw [Int32.toBitVec_ofInt, BitVec.toNat_ofInt]
    omega
  rw [Int.natCast_emod, h1]
  have h2 : ((2 : Int) ^ n) ∣ 4294967296 := by
    refine ⟨2 ^ (32 - n), ?_⟩
    rw [← Int.pow_add]
    rw [show n + (32 - n) = 32 by omega]
    rfl
  have h3 : ((2 ^ n : Nat) : Int) = (2 : Int) ^ n := by simp
  rw [h3]
  exact Int.emod_emod_of_dvd x h2
theorem z_iandmin (x : Int) {n : Nat} (hn : n < 31) : inI (x % 2 ^ n) := by
  have hlt : (2 : Int) ^ n < 2 ^ 31 := by
    have : (2 : Nat) ^ n < 2 ^ 31 := Nat.pow_lt_pow_right (by decide) hn
    have e : ((2 ^ n : Nat) : Int) = (2 : Int) ^ n := by simp
    omega
  have hpos : (0 : Int) < 2 ^ n := Int.pow_pos (by decide)
  have h1 := Int.emod_nonneg x (Int.ne_of_gt hpos)
  have h2 := Int.emod_lt_of_pos x hpos
  unfold inI
  omega
theorem z_sm32 : ∀ k : Nat, k < 32 → ((nI k &&& 31).toBitVec.smod 32).toNat = k := by decide +kernel
theorem z_sm64 : ∀ k : Nat, k < 64 → (((nI k).toInt64 &&& 63).toBitVec.smod 64).toNat = k := by decide +kernel
theorem z_ishlE {x n : Nat} (hn : n < 31) (hr : x * 2 ^ n < 2147483648) : z_i (x : Int) <<< (z_i (n : Int) &&& 31) = z_i ((x * 2 ^ n : Nat) : Int) := by
  rw [z_iN, z_iN, z_iN]
  exact pk_shlN _ n (z_sm32 n (by omega)) (by omega)
theorem z_ishrE {x n : Nat} (hn : n < 32) (hx : inI (x : Int)) : z_i (x : Int) >>> (z_i (n : Int) &&& 31) = z_i ((x / 2 ^ n : Nat) : Int) := by
  rw [z_iN, z_iN, z_iN]
  exact pk_shrN (by unfold inI at hx; omega) _ n (z_sm32 n hn)
theorem z_usm32 : ∀ k : Nat, k < 32 → (((nI k).toUInt32 &&& Int32.toUInt32 31).toBitVec % 32).toNat = k := by decide +kernel
theorem z_iushrE {x n : Nat} (hn : n < 32) (hx : inI (x : Int)) : ((z_i (x : Int)).toUInt32 >>> ((z_i (n : Int)).toUInt32 &&& Int32.toUInt32 31)).toInt32 = z_i ((x / 2 ^ n : Nat) : Int) := by
  rw [z_iN, z_iN, z_iN]
  exact pk_ushrN (by unfold inI at hx; omega) _ n (z_usm32 n hn)
theorem z_divin {x n : Nat} (hx : inI (x : Int)) : inI ((x / 2 ^ n : Nat) : Int) := z_natin (Nat.lt_of_le_of_lt (Nat.div_le_self x (2 ^ n)) (by unfold inI at hx; omega))
theorem z_divinL {x n : Nat} (hx : inL (x : Int)) : inL ((x / 2 ^ n : Nat) : Int) := z_natinL (Nat.lt_of_le_of_lt (Nat.div_le_self x (2 ^ n)) (by unfold inL at hx; omega))
theorem z_lc : ∀ k : Nat, k < 64 → ((nI k).toInt64 &&& 63) = lN k := by decide +kernel
theorem z_lsm : ∀ k : Nat, k < 64 → (BitVec.ofNat 64 k).smod 64 = BitVec.ofNat 64 k := by decide +kernel
theorem z_lshlE {x n : Nat} (hn : n < 63) (hr : x * 2 ^ n < 9223372036854775808) : z_l (x : Int) <<< ((z_i (n : Int)).toInt64 &&& 63) = z_l ((x * 2 ^ n : Nat) : Int) := by
  rw [z_iN, z_lN, z_lN, z_lc n (by omega)]
  apply Int64.toBitVec_inj.mp
  rw [Int64.toBitVec_shiftLeft, show (lN x).toBitVec = BitVec.ofNat 64 x from rfl, show (lN n).toBitVec = BitVec.ofNat 64 n from rfl, show (lN (x * 2 ^ n)).toBitVec = BitVec.ofNat 64 (x * 2 ^ n) from rfl, z_lsm n (by omega)]
  apply BitVec.eq_of_toNat_eq
  rw [BitVec.shiftLeft_eq', BitVec.toNat_shiftLeft, BitVec.toNat_ofNat, BitVec.toNat_ofNat, BitVec.toNat_ofNat, Nat.mod_eq_of_lt (show n < 2 ^ 64 by omega), Nat.shiftLeft_eq, Nat.mul_mod, Nat.mod_mod, ← Nat.mul_mod]
theorem z_lshrE {x n : Nat} (hn : n < 63) (hx : inL (x : Int)) : z_l (x : Int) >>> ((z_i (n : Int)).toInt64 &&& 63) = z_l ((x / 2 ^ n : Nat) : Int) := by
  have hx2 : x < 9223372036854775808 := by unfold inL at hx; omega
  have hd : x / 2 ^ n ≤ x := Nat.div_le_self _ _
  rw [z_iN, z_lN, z_lN]
  apply Int64.toInt_inj.mp
  have e : (lN x >>> ((nI n).toInt64 &&& 63)).toInt = (lN x).toInt >>> n := by
    rw [z_lc n (by omega)]
    have h2 : ((lN n).toBitVec.smod 64).toNat = n := by
      rw [show (lN n).toBitVec = BitVec.ofNat 64 n from rfl, z_lsm n (by omega), BitVec.toNat_ofNat, Nat.mod_eq_of_lt (by omega)]
    have h3 : (lN x >>> lN n).toInt = (lN x).toInt >>> ((lN n).toBitVec.smod 64).toNat := BitVec.toInt_sshiftRight ..
    rw [h3, h2]
  rw [e, Int.shiftRight_eq_div_pow, pk_lT (by omega), pk_lT (by omega)]
  rfl
/-! THE RULES: one an instruction -/
theorem z_cons {a : z_V} {st : List z_V} (h : z_ca a) (hs : ∀ v ∈ st, z_ca v) : ∀ v ∈ a :: st, z_ca v := fun v hv => (List.mem_cons.mp hv).elim (fun e => e ▸ h) (hs v)
theorem z_hd {a : z_V} {st : List z_V} (h : ∀ v ∈ a :: st, z_ca v) : z_ca a := h a List.mem_cons_self
theorem z_tl {a : z_V} {st : List z_V} (h : ∀ v ∈ a :: st, z_ca v) : ∀ v ∈ st, z_ca v := fun v hv => h v (List.mem_cons_of_mem _ hv)
theorem z_setc {a : z_V} {ls : List z_V} {i : Nat} (h : z_ca a) (hs : ∀ v ∈ ls, z_ca v) : ∀ v ∈ ls.set i a, z_ca v := fun v hv => (List.mem_or_eq_of_mem_set hv).elim (hs v) (fun e => e ▸ h)
theorem z_atc {ls : List z_V} {i : Nat} {a : z_V} (hs : ∀ v ∈ ls, z_ca v) (h : ls[i]? = some a) : z_ca a := hs a (List.mem_of_getElem? h)
section ZR
variable {μ : z_Mt} {fin : z_Fin} {pc : Nat} {ls st : List z_V} {I : z_M}
theorem g_iconst {n : Int} (hd : decode μ.2.1 pc = .ok (.iconst n, 1)) (hn : inI n) (k : z_R μ fin (pc + 1) ls (aI n :: st) I) : z_R μ fin pc ls (st) I := by
  intro hC hL hS p l e Rm s m args below meth c Γ G H locs lsA hP hv hl
  exact lv_iconst G.1 G.2.1 hd rfl (k hC hL (z_cons hn hS) p l e Rm s m args below meth c Γ G H locs lsA hP hv hl)
theorem g_bipush {n : Int} (hd : decode μ.2.1 pc = .ok (.bipush n, 2)) (hw : (Int8.ofInt n).toInt32 = z_i n) (hn : inI n) (k : z_R μ fin (pc + 2) ls (aI n :: st) I) : z_R μ fin pc ls (st) I := by
  intro hC hL hS p l e Rm s m args below meth c Γ G H locs lsA hP hv hl
  exact lv_bipush G.1 G.2.1 hd hw (k hC hL (z_cons hn hS) p l e Rm s m args below meth c Γ G H locs lsA hP hv hl)
theorem g_sipush {n : Int} (hd : decode μ.2.1 pc = .ok (.sipush n, 3)) (hw : (Int16.ofInt n).toInt32 = z_i n) (hn : inI n) (k : z_R μ fin (pc + 3) ls (aI n :: st) I) : z_R μ fin pc ls (st) I := by
  intro hC hL hS p l e Rm s m args below meth c Γ G H locs lsA hP hv hl
  exact lv_sipush G.1 G.2.1 hd hw (k hC hL (z_cons hn hS) p l e Rm s m args below meth c Γ G H locs lsA hP hv hl)
theorem g_lconst {n : Fin 2} {v : Int} (hd : decode μ.2.1 pc = .ok (.lconst n, 1)) (hw : Int64.ofNat (n : Nat) = z_l v) (hn : inL v) (k : z_R μ fin (pc + 1) ls (aL v :: st) I) : z_R μ fin pc ls (st) I := by
  intro hC hL hS p l e Rm s m args below meth c Γ G H locs lsA hP hv hl
  exact lv_lconst G.1 G.2.1 hd hw (k hC hL (z_cons hn hS) p l e Rm s m args below meth c Γ G H locs lsA hP hv hl)
theorem g_ldc {ix : Nat} {v : Int32} {n : Int} (hd : decode μ.2.1 pc = .ok (.ldc ix, 2)) (hw : Cond.constant μ.1 ix v ∈ z_W) (hv9 : v = z_i n) (hn : inI n) (k : z_R μ fin (pc + 2) ls (aI n :: st) I) : z_R μ fin pc ls (st) I := by
  intro hC hL hS p l e Rm s m args below meth c Γ G H locs lsA hP hv hl
  exact lv_ldc (v := z_i n) G.1 G.2.1 G.2.2.2.2.1 (hv9 ▸ G.2.2.2.2.2.1 _ hw) hd (k hC hL (z_cons hn hS) p l e Rm s m args below meth c Γ G H locs lsA hP hv hl)
theorem g_ldc_w {ix : Nat} {v : Int32} {n : Int} (hd : decode μ.2.1 pc = .ok (.ldc_w ix, 3)) (hw : Cond.constant μ.1 ix v ∈ z_W) (hv9 : v = z_i n) (hn : inI n) (k : z_R μ fin (pc + 3) ls (aI n :: st) I) : z_R μ fin pc ls (st) I := by
  intro hC hL hS p l e Rm s m args below meth c Γ G H locs lsA hP hv hl
  exact lv_ldcw (v := z_i n) G.1 G.2.1 G.2.2.2.2.1 (hv9 ▸ G.2.2.2.2.2.1 _ hw) hd (k hC hL (z_cons hn hS) p l e Rm s m args below meth c Γ G H locs lsA hP hv hl)
theorem g_ldc2 {ix : Nat} {v : Int64} {n : Int} (hd : decode μ.2.1 pc = .ok (.ldc2_w ix, 3)) (hw : Cond.constantLong μ.1 ix v ∈ z_W) (hv9 : v = z_l n) (hn : inL n) (k : z_R μ fin (pc + 3) ls (aL n :: st) I) : z_R μ fin pc ls (st) I := by
  intro hC hL hS p l e Rm s m args below meth c Γ G H locs lsA hP hv hl
  exact lv_ldc2 (v := z_l n) G.1 G.2.1 G.2.2.2.2.1 (hv9 ▸ G.2.2.2.2.2.1 _ hw) hd (k hC hL (z_cons hn hS) p l e Rm s m args below meth c Γ G H locs lsA hP hv hl)
theorem g_iload_n {kk : Fin 4} {i : Nat} {x : Int} (hd : decode μ.2.1 pc = .ok (.iload_n kk, 1)) (hi : (kk : Nat) = i) (hx : ls[i]? = some (aI x)) (k : z_R μ fin (pc + 1) ls (aI x :: st) I) : z_R μ fin pc ls (st) I := by
  intro hC hL hS p l e Rm s m args below meth c Γ G H locs lsA hP hv hl
  exact lv_iload_n G.1 G.2.1 hd hi (hl.2.2 i (aI x) hx (by intro q; cases q)) (k hC hL (z_cons (z_atc hL hx) hS) p l e Rm s m args below meth c Γ G H locs lsA hP hv hl)
theorem g_iload {i : Nat} {x : Int} (hd : decode μ.2.1 pc = .ok (.iload i, 2)) (hx : ls[i]? = some (aI x)) (k : z_R μ fin (pc + 2) ls (aI x :: st) I) : z_R μ fin pc ls (st) I := by
  intro hC hL hS p l e Rm s m args below meth c Γ G H locs lsA hP hv hl
  exact lv_iload G.1 G.2.1 hd (hl.2.2 i (aI x) hx (by intro q; cases q)) (k hC hL (z_cons (z_atc hL hx) hS) p l e Rm s m args below meth c Γ G H locs lsA hP hv hl)
theorem g_lload_n {kk : Fin 4} {i : Nat} {x : Int} (hd : decode μ.2.1 pc = .ok (.lload_n kk, 1)) (hi : (kk : Nat) = i) (hx : ls[i]? = some (aL x)) (k : z_R μ fin (pc + 1) ls (aL x :: st) I) : z_R μ fin pc ls (st) I := by
  intro hC hL hS p l e Rm s m args below meth c Γ G H locs lsA hP hv hl
  exact lv_lload_n G.1 G.2.1 hd hi (hl.2.2 i (aL x) hx (by intro q; cases q)) (k hC hL (z_cons (z_atc hL hx) hS) p l e Rm s m args below meth c Γ G H locs lsA hP hv hl)
theorem g_lload {i : Nat} {x : Int} (hd : decode μ.2.1 pc = .ok (.lload i, 2)) (hx : ls[i]? = some (aL x)) (k : z_R μ fin (pc + 2) ls (aL x :: st) I) : z_R μ fin pc ls (st) I := by
  intro hC hL hS p l e Rm s m args below meth c Γ G H locs lsA hP hv hl
  exact lv_lload G.1 G.2.1 hd (hl.2.2 i (aL x) hx (by intro q; cases q)) (k hC hL (z_cons (z_atc hL hx) hS) p l e Rm s m args below meth c Γ G H locs lsA hP hv hl)
theorem g_aload_n {kk : Fin 4} {i : Nat} {x : Nat} (hd : decode μ.2.1 pc = .ok (.aload_n kk, 1)) (hi : (kk : Nat) = i) (hx : ls[i]? = some (aR x)) (k : z_R μ fin (pc + 1) ls (aR x :: st) I) : z_R μ fin pc ls (st) I := by
  intro hC hL hS p l e Rm s m args below meth c Γ G H locs lsA hP hv hl
  exact lv_aload_n G.1 G.2.1 hd hi (hl.2.2 i (aR x) hx (by intro q; cases q)) (k hC hL (z_cons (z_atc hL hx) hS) p l e Rm s m args below meth c Γ G H locs lsA hP hv hl)
theorem g_aload {i : Nat} {x : Nat} (hd : decode μ.2.1 pc = .ok (.aload i, 2)) (hx : ls[i]? = some (aR x)) (k : z_R μ fin (pc + 2) ls (aR x :: st) I) : z_R μ fin pc ls (st) I := by
  intro hC hL hS p l e Rm s m args below meth c Γ G H locs lsA hP hv hl
  exact lv_aload G.1 G.2.1 hd (hl.2.2 i (aR x) hx (by intro q; cases q)) (k hC hL (z_cons (z_atc hL hx) hS) p l e Rm s m args below meth c Γ G H locs lsA hP hv hl)
/-- no long stands just below slot i -/
def z_isL : Option z_V → Bool
  | some (.inr (.inl _)) => true
  | _ => false
def z_nl (ls : List z_V) (i : Nat) : Bool := i == 0 || !(z_isL ls[i - 1]?)
theorem z_nl_not {ls : List z_V} {j : Nat} {y : Int} (h : z_nl ls (j + 1) = true) (hj : ls[j]? = some (aL y)) : False := by
  simp [z_nl, z_isL, hj] at h
def z_asl (Γ : z_G) (ls : List z_V) : List (Nat × Value) := ((List.range ls.length).filter (fun i => match ls[i]? with | some (.inr (.inr (.inr _))) => false | _ => true)).map (fun i => (i, z_cv (gad Γ) (ls.getD i aU)))
theorem z_asl_in {Γ : z_G} {ls : List z_V} {i : Nat} {v : z_V} (h : ls[i]? = some v) (hv : v ≠ aU) : (i, z_cv (gad Γ) v) ∈ z_asl Γ ls := by
  refine List.mem_map.mpr ⟨i, List.mem_filter.mpr ⟨List.mem_range.mpr (List.getElem?_eq_some_iff.mp h).1, ?_⟩, by rw [List.getD_eq_getElem?_getD, h]; rfl⟩
  rw [h]
  rcases v with x | x | x | x
  · rfl
  · rfl
  · rfl
  · exact absurd rfl hv
theorem z_asl_of {Γ : z_G} {ls : List z_V} {q : Nat × Value} (h : q ∈ z_asl Γ ls) : ∃ v, ls[q.1]? = some v ∧ v ≠ aU ∧ q.2 = z_cv (gad Γ) v := by
  obtain ⟨i, hi, rfl⟩ := List.mem_map.mp h
  obtain ⟨h1, h2⟩ := List.mem_filter.mp hi
  have hl := List.mem_range.mp h1
  refine ⟨ls[i], List.getElem?_eq_getElem hl, ?_, by rw [List.getD_eq_getElem?_getD, List.getElem?_eq_getElem hl]; rfl⟩
  intro q
  rw [List.getElem?_eq_getElem hl, q] at h2
  cases h2
theorem z_asl_has {Γ : z_G} {lsA : Array Slot} {n : Nat} {ls : List z_V} (h : z_lo Γ lsA n ls) : lv_has lsA n (z_asl Γ ls) := by
  refine ⟨h.1, h.2.1, fun q hq => ?_⟩
  obtain ⟨v, h1, h2, h3⟩ := z_asl_of hq
  rw [h3]
  exact h.2.2 q.1 v h1 h2
theorem z_cat2 {ad : Nat → Nat} {v : z_V} (h : (z_cv ad v).category = 2) : ∃ x, v = aL x := by
  rcases v with x | x | x | x
  · cases h
  · exact ⟨x, rfl⟩
  · cases h
  · cases h
/-- behind a store of one slot -/
theorem z_lo1 {Γ : z_G} {lsA : Array Slot} {n i : Nat} {ls : List z_V} {w : z_V} (hb : z_nl ls i = true) (h : lv_has lsA n ((i, z_cv (gad Γ) w) :: (z_asl Γ ls).filter (fun q => !(q.1 == i) && !(q.1 + 1 == i && q.2.category == 2)))) : z_lo Γ lsA n (ls.set i w) := by
  refine ⟨h.1, h.2.1, fun j v hj hv => ?_⟩
  rw [List.getElem?_set] at hj
  by_cases hij : i = j
  · subst hij
    rw [if_pos rfl] at hj
    split at hj
    · cases hj
      exact h.2.2 (i, z_cv (gad Γ) w) List.mem_cons_self
    · cases hj
  · rw [if_neg hij] at hj
    refine h.2.2 (j, z_cv (gad Γ) v) (List.mem_cons_of_mem _ (List.mem_filter.mpr ⟨z_asl_in hj hv, ?_⟩))
    have h1 : (j == i) = false := by simp; omega
    show (!(j == i) && !(j + 1 == i && (z_cv (gad Γ) v).category == 2)) = true
    rw [h1]
    by_cases h2 : j + 1 = i
    · subst h2
      have h3 : ((z_cv (gad Γ) v).category == 2) = false := by
        cases hc : ((z_cv (gad Γ) v).category == 2) with
        | false => rfl
        | true =>
          obtain ⟨x, rfl⟩ := z_cat2 (ad := gad Γ) (by simpa using hc)
          exact (z_nl_not hb hj).elim
      rw [h3]; simp
    · simp [h2]
/-- behind a store of a long -/
theorem z_lo2 {Γ : z_G} {lsA : Array Slot} {n i : Nat} {ls : List z_V} {x : Int} (hb : z_nl ls i = true) (h : lv_has lsA n ((i, z_cv (gad Γ) (aL x)) :: (z_asl Γ ls).filter (fun q => !(q.1 == i) && (!(q.1 == i + 1) && !(q.1 + 1 == i && q.2.category == 2))))) : z_lo Γ lsA n ((ls.set i (aL x)).set (i + 1) aU) := by
  refine ⟨h.1, h.2.1, fun j v hj hv => ?_⟩
  rw [List.getElem?_set] at hj
  by_cases hij1 : i + 1 = j
  · rw [if_pos hij1] at hj
    split at hj
    · cases hj; exact absurd rfl hv
    · cases hj
  rw [if_neg hij1, List.getElem?_set] at hj
  by_cases hij : i = j
  · subst hij
    rw [if_pos rfl] at hj
    split at hj
    · cases hj
      exact h.2.2 (i, z_cv (gad Γ) (aL x)) List.mem_cons_self
    · cases hj
  · rw [if_neg hij] at hj
    refine h.2.2 (j, z_cv (gad Γ) v) (List.mem_cons_of_mem _ (List.mem_filter.mpr ⟨z_asl_in hj hv, ?_⟩))
    have h1 : (j == i) = false := by simp; omega
    have h1' : (j == i + 1) = false := by simp; omega
    show (!(j == i) && (!(j == i + 1) && !(j + 1 == i && (z_cv (gad Γ) v).category == 2))) = true
    rw [h1, h1']
    by_cases h2 : j + 1 = i
    · subst h2
      have h3 : ((z_cv (gad Γ) v).category == 2) = false := by
        cases hc : ((z_cv (gad Γ) v).category == 2) with
        | false => rfl
        | true =>
          obtain ⟨x, rfl⟩ := z_cat2 (ad := gad Γ) (by simpa using hc)
          exact (z_nl_not hb hj).elim
      rw [h3]; simp
    · simp [h2]
theorem g_istore_n {kk : Fin 4} {i : Nat} {x : Int} (hd : decode μ.2.1 pc = .ok (.istore_n kk, 1)) (hi : (kk : Nat) = i) (hn : i < μ.2.2.1) (hb : z_nl ls i = true) (k : z_R μ fin (pc + 1) (ls.set i (aI x)) st I) : z_R μ fin pc ls (aI x :: st) I := by
  intro hC hL hS p l e Rm s m args below meth c Γ G H locs lsA hP hv hl
  exact lv_istore_n G.1 G.2.1 hd hi (z_asl_has hl) hn rfl (fun lsB hB => k hC (z_setc (z_hd hS) hL) (z_tl hS) p l e Rm s m args below meth c Γ G H locs lsB hP hv (z_lo1 (w := aI x) hb hB))
theorem g_istore {i : Nat} {x : Int} (hd : decode μ.2.1 pc = .ok (.istore i, 2)) (hn : i < μ.2.2.1) (hb : z_nl ls i = true) (k : z_R μ fin (pc + 2) (ls.set i (aI x)) st I) : z_R μ fin pc ls (aI x :: st) I := by
  intro hC hL hS p l e Rm s m args below meth c Γ G H locs lsA hP hv hl
  exact lv_istore G.1 G.2.1 hd (z_asl_has hl) hn rfl (fun lsB hB => k hC (z_setc (z_hd hS) hL) (z_tl hS) p l e Rm s m args below meth c Γ G H locs lsB hP hv (z_lo1 (w := aI x) hb hB))
theorem g_astore_n {kk : Fin 4} {i : Nat} {x : Nat} (hd : decode μ.2.1 pc = .ok (.astore_n kk, 1)) (hi : (kk : Nat) = i) (hn : i < μ.2.2.1) (hb : z_nl ls i = true) (k : z_R μ fin (pc + 1) (ls.set i (aR x)) st I) : z_R μ fin pc ls (aR x :: st) I := by
  intro hC hL hS p l e Rm s m args below meth c Γ G H locs lsA hP hv hl
  exact lv_astore_n G.1 G.2.1 hd hi (z_asl_has hl) hn rfl (fun lsB hB => k hC (z_setc (z_hd hS) hL) (z_tl hS) p l e Rm s m args below meth c Γ G H locs lsB hP hv (z_lo1 (w := aR x) hb hB))
theorem g_astore {i : Nat} {x : Nat} (hd : decode μ.2.1 pc = .ok (.astore i, 2)) (hn : i < μ.2.2.1) (hb : z_nl ls i = true) (k : z_R μ fin (pc + 2) (ls.set i (aR x)) st I) : z_R μ fin pc ls (aR x :: st) I := by
  intro hC hL hS p l e Rm s m args below meth c Γ G H locs lsA hP hv hl
  exact lv_astore G.1 G.2.1 hd (z_asl_has hl) hn rfl (fun lsB hB => k hC (z_setc (z_hd hS) hL) (z_tl hS) p l e Rm s m args below meth c Γ G H locs lsB hP hv (z_lo1 (w := aR x) hb hB))
theorem g_lstore_n {kk : Fin 4} {i : Nat} {x : Int} (hd : decode μ.2.1 pc = .ok (.lstore_n kk, 1)) (hi : (kk : Nat) = i) (hn : i + 1 < μ.2.2.1) (hb : z_nl ls i = true) (k : z_R μ fin (pc + 1) ((ls.set i (aL x)).set (i + 1) aU) st I) : z_R μ fin pc ls (aL x :: st) I := by
  intro hC hL hS p l e Rm s m args below meth c Γ G H locs lsA hP hv hl
  exact lv_lstore_n G.1 G.2.1 hd hi (z_asl_has hl) hn rfl (fun lsB hB => k hC (z_setc trivial (z_setc (z_hd hS) hL)) (z_tl hS) p l e Rm s m args below meth c Γ G H locs lsB hP hv (z_lo2 hb hB))
theorem g_lstore {i : Nat} {x : Int} (hd : decode μ.2.1 pc = .ok (.lstore i, 2)) (hn : i + 1 < μ.2.2.1) (hb : z_nl ls i = true) (k : z_R μ fin (pc + 2) ((ls.set i (aL x)).set (i + 1) aU) st I) : z_R μ fin pc ls (aL x :: st) I := by
  intro hC hL hS p l e Rm s m args below meth c Γ G H locs lsA hP hv hl
  exact lv_lstore G.1 G.2.1 hd (z_asl_has hl) hn rfl (fun lsB hB => k hC (z_setc trivial (z_setc (z_hd hS) hL)) (z_tl hS) p l e Rm s m args below meth c Γ G H locs lsB hP hv (z_lo2 hb hB))
theorem g_iincw {i : Nat} {n x : Int} (hd : decode μ.2.1 pc = .ok (.iinc i n, 3)) (hx : ls[i]? = some (aI x)) (hn : i < μ.2.2.1) (hb : z_nl ls i = true) (k : z_R μ fin (pc + 3) (ls.set i (aI (i32 (x + n)))) st I) : z_R μ fin pc ls st I := by
  intro hC hL hS p l e Rm s m args below meth c Γ G H locs lsA hP hv hl
  obtain ⟨j, hj⟩ := List.getElem?_of_mem (z_asl_in (Γ := Γ) hx (by intro q; cases q))
  exact lv_iinc (v := z_i (i32 (x + n))) G.1 G.2.1 hd (z_asl_has hl) hj (by rw [z_i32, ← z_iadd]; rfl) hn rfl (fun lsB hB => k hC (z_setc (i32_in _) hL) hS p l e Rm s m args below meth c Γ G H locs lsB hP hv (z_lo1 (w := aI (i32 (x + n))) hb hB))
theorem g_iinc {i : Nat} {n x : Int} (hd : decode μ.2.1 pc = .ok (.iinc i n, 3)) (hx : ls[i]? = some (aI x)) (hn : i < μ.2.2.1) (hb : z_nl ls i = true) (hr : inI (x + n)) (k : z_R μ fin (pc + 3) (ls.set i (aI (x + n))) st I) : z_R μ fin pc ls st I := g_iincw hd hx hn hb (by rw [i32_id hr]; exact k)
theorem g_iaddw {x y : Int} (hd : decode μ.2.1 pc = .ok (.iadd, 1)) (k : z_R μ fin (pc + 1) ls (aI (i32 (x + y)) :: st) I) : z_R μ fin pc ls (aI y :: aI x :: st) I := by
  intro hC hL hS p l e Rm s m args below meth c Γ G H locs lsA hP hv hl
  refine lv_iadd G.1 G.2.1 hd ?_
  rw [z_iadd, ← z_i32]
  exact (k hC hL (z_cons (i32_in _) (z_tl (z_tl hS))) p l e Rm s m args below meth c Γ G H locs lsA hP hv hl)
theorem g_iadd {x y : Int} (hd : decode μ.2.1 pc = .ok (.iadd, 1)) (hr : inI (x + y)) (k : z_R μ fin (pc + 1) ls (aI (x + y) :: st) I) : z_R μ fin pc ls (aI y :: aI x :: st) I := g_iaddw hd (by rw [i32_id hr]; exact k)
theorem g_isubw {x y : Int} (hd : decode μ.2.1 pc = .ok (.isub, 1)) (k : z_R μ fin (pc + 1) ls (aI (i32 (x - y)) :: st) I) : z_R μ fin pc ls (aI y :: aI x :: st) I := by
  intro hC hL hS p l e Rm s m args below meth c Γ G H locs lsA hP hv hl
  refine lv_isub G.1 G.2.1 hd ?_
  rw [z_isub, ← z_i32]
  exact (k hC hL (z_cons (i32_in _) (z_tl (z_tl hS))) p l e Rm s m args below meth c Γ G H locs lsA hP hv hl)
theorem g_isub {x y : Int} (hd : decode μ.2.1 pc = .ok (.isub, 1)) (hr : inI (x - y)) (k : z_R μ fin (pc + 1) ls (aI (x - y) :: st) I) : z_R μ fin pc ls (aI y :: aI x :: st) I := g_isubw hd (by rw [i32_id hr]; exact k)
theorem g_imulw {x y : Int} (hd : decode μ.2.1 pc = .ok (.imul, 1)) (k : z_R μ fin (pc + 1) ls (aI (i32 (x * y)) :: st) I) : z_R μ fin pc ls (aI y :: aI x :: st) I := by
  intro hC hL hS p l e Rm s m args below meth c Γ G H locs lsA hP hv hl
  refine lv_imul G.1 G.2.1 hd ?_
  rw [z_imul, ← z_i32]
  exact (k hC hL (z_cons (i32_in _) (z_tl (z_tl hS))) p l e Rm s m args below meth c Γ G H locs lsA hP hv hl)
theorem g_imul {x y : Int} (hd : decode μ.2.1 pc = .ok (.imul, 1)) (hr : inI (x * y)) (k : z_R μ fin (pc + 1) ls (aI (x * y) :: st) I) : z_R μ fin pc ls (aI y :: aI x :: st) I := g_imulw hd (by rw [i32_id hr]; exact k)
theorem g_ineg {x : Int} (hd : decode μ.2.1 pc = .ok (.ineg, 1)) (hr : inI (-x)) (k : z_R μ fin (pc + 1) ls (aI (-x) :: st) I) : z_R μ fin pc ls (aI x :: st) I := by
  intro hC hL hS p l e Rm s m args below meth c Γ G H locs lsA hP hv hl
  refine lv_ineg G.1 G.2.1 hd ?_
  rw [z_ineg]
  exact (k hC hL (z_cons hr (z_tl hS)) p l e Rm s m args below meth c Γ G H locs lsA hP hv hl)
theorem g_laddw {x y : Int} (hd : decode μ.2.1 pc = .ok (.ladd, 1)) (k : z_R μ fin (pc + 1) ls (aL (i64 (x + y)) :: st) I) : z_R μ fin pc ls (aL y :: aL x :: st) I := by
  intro hC hL hS p l e Rm s m args below meth c Γ G H locs lsA hP hv hl
  refine lv_ladd G.1 G.2.1 hd ?_
  rw [z_ladd, ← z_i64]
  exact (k hC hL (z_cons (i64_in _) (z_tl (z_tl hS))) p l e Rm s m args below meth c Γ G H locs lsA hP hv hl)
theorem g_ladd {x y : Int} (hd : decode μ.2.1 pc = .ok (.ladd, 1)) (hr : inL (x + y)) (k : z_R μ fin (pc + 1) ls (aL (x + y) :: st) I) : z_R μ fin pc ls (aL y :: aL x :: st) I := g_laddw hd (by rw [i64_id hr]; exact k)
theorem g_lsubw {x y : Int} (hd : decode μ.2.1 pc = .ok (.lsub, 1)) (k : z_R μ fin (pc + 1) ls (aL (i64 (x - y)) :: st) I) : z_R μ fin pc ls (aL y :: aL x :: st) I := by
  intro hC hL hS p l e Rm s m args below meth c Γ G H locs lsA hP hv hl
  refine lv_lsub G.1 G.2.1 hd ?_
  rw [z_lsub, ← z_i64]
  exact (k hC hL (z_cons (i64_in _) (z_tl (z_tl hS))) p l e Rm s m args below meth c Γ G H locs lsA hP hv hl)
theorem g_lsub {x y : Int} (hd : decode μ.2.1 pc = .ok (.lsub, 1)) (hr : inL (x - y)) (k : z_R μ fin (pc + 1) ls (aL (x - y) :: st) I) : z_R μ fin pc ls (aL y :: aL x :: st) I := g_lsubw hd (by rw [i64_id hr]; exact k)
theorem g_lmulw {x y : Int} (hd : decode μ.2.1 pc = .ok (.lmul, 1)) (k : z_R μ fin (pc + 1) ls (aL (i64 (x * y)) :: st) I) : z_R μ fin pc ls (aL y :: aL x :: st) I := by
  intro hC hL hS p l e Rm s m args below meth c Γ G H locs lsA hP hv hl
  refine lv_lmul G.1 G.2.1 hd ?_
  rw [z_lmul, ← z_i64]
  exact (k hC hL (z_cons (i64_in _) (z_tl (z_tl hS))) p l e Rm s m args below meth c Γ G H locs lsA hP hv hl)
theorem g_lmul {x y : Int} (hd : decode μ.2.1 pc = .ok (.lmul, 1)) (hr : inL (x * y)) (k : z_R μ fin (pc + 1) ls (aL (x * y) :: st) I) : z_R μ fin pc ls (aL y :: aL x :: st) I := g_lmulw hd (by rw [i64_id hr]; exact k)
theorem g_irem {x y : Int} (hd : decode μ.2.1 pc = .ok (.irem, 1)) (hy : y ≠ 0) (k : z_R μ fin (pc + 1) ls (aI (x.tmod y) :: st) I) : z_R μ fin pc ls (aI y :: aI x :: st) I := by
  intro hC hL hS p l e Rm s m args below meth c Γ G H locs lsA hP hv hl
  have hy1 := z_hd hS
  have hx1 := z_hd (z_tl hS)
  refine lv_irem G.1 G.2.1 hd (fun q => hy ((z_ieq hy1 (by decide)).mp (q.trans z_i0.symm))) ?_
  rw [z_rem hx1 hy1]
  exact (k hC hL (z_cons (z_remin hx1) (z_tl (z_tl hS))) p l e Rm s m args below meth c Γ G H locs lsA hP hv hl)
theorem g_ldiv {x y : Int} (hd : decode μ.2.1 pc = .ok (.ldiv, 1)) (hx0 : 0 ≤ x) (hy : 0 < y) (k : z_R μ fin (pc + 1) ls (aL (x / y) :: st) I) : z_R μ fin pc ls (aL y :: aL x :: st) I := by
  intro hC hL hS p l e Rm s m args below meth c Γ G H locs lsA hP hv hl
  have hy1 := z_hd hS
  have hx1 := z_hd (z_tl hS)
  refine lv_ldiv G.1 G.2.1 hd (fun q => by have := (z_leq hy1 (by decide)).mp (q.trans z_l0.symm); omega) ?_
  rw [z_ldivE hx1 hy1 hx0 hy]
  exact (k hC hL (z_cons (z_ldivin hx1 hx0 hy) (z_tl (z_tl hS))) p l e Rm s m args below meth c Γ G H locs lsA hP hv hl)
theorem g_lrem {x y : Int} (hd : decode μ.2.1 pc = .ok (.lrem, 1)) (hx0 : 0 ≤ x) (hy : 0 < y) (k : z_R μ fin (pc + 1) ls (aL (x % y) :: st) I) : z_R μ fin pc ls (aL y :: aL x :: st) I := by
  intro hC hL hS p l e Rm s m args below meth c Γ G H locs lsA hP hv hl
  have hy1 := z_hd hS
  have hx1 := z_hd (z_tl hS)
  refine lv_lrem G.1 G.2.1 hd (fun q => by have := (z_leq hy1 (by decide)).mp (q.trans z_l0.symm); omega) ?_
  rw [z_lremE hx1 hy1 hx0 hy]
  exact (k hC hL (z_cons (z_lremin hx1 hx0 hy) (z_tl (z_tl hS))) p l e Rm s m args below meth c Γ G H locs lsA hP hv hl)
theorem g_i2l {x : Int} (hd : decode μ.2.1 pc = .ok (.i2l, 1)) (k : z_R μ fin (pc + 1) ls (aL x :: st) I) : z_R μ fin pc ls (aI x :: st) I := by
  intro hC hL hS p l e Rm s m args below meth c Γ G H locs lsA hP hv hl
  exact lv_i2l G.1 G.2.1 hd (z_i2l (z_hd hS)) (k hC hL (z_cons (z_inI_inL (z_hd hS)) (z_tl hS)) p l e Rm s m args below meth c Γ G H locs lsA hP hv hl)
theorem g_l2i {x : Int} (hd : decode μ.2.1 pc = .ok (.l2i, 1)) (hr : inI x) (k : z_R μ fin (pc + 1) ls (aI x :: st) I) : z_R μ fin pc ls (aL x :: st) I := by
  intro hC hL hS p l e Rm s m args below meth c Γ G H locs lsA hP hv hl
  exact lv_l2i G.1 G.2.1 hd (z_l2i x) (k hC hL (z_cons hr (z_tl hS)) p l e Rm s m args below meth c Γ G H locs lsA hP hv hl)
theorem g_i2b {x : Int} (hd : decode μ.2.1 pc = .ok (.i2b, 1)) (hr : -128 ≤ x ∧ x ≤ 127) (k : z_R μ fin (pc + 1) ls (aI x :: st) I) : z_R μ fin pc ls (aI x :: st) I := by
  intro hC hL hS p l e Rm s m args below meth c Γ G H locs lsA hP hv hl
  exact lv_i2b G.1 G.2.1 hd (z_i2b hr) (k hC hL hS p l e Rm s m args below meth c Γ G H locs lsA hP hv hl)
theorem g_lcmp {x y : Int} (hd : decode μ.2.1 pc = .ok (.lcmp, 1)) (k : z_R μ fin (pc + 1) ls (aI (if y < x then 1 else if x = y then 0 else -1) :: st) I) : z_R μ fin pc ls (aL y :: aL x :: st) I := by
  intro hC hL hS p l e Rm s m args below meth c Γ G H locs lsA hP hv hl
  refine W.lcmp G.1 G.2.1 hd ?_
  rw [z_lcmpE (z_hd (z_tl hS)) (z_hd hS)]
  exact (k hC hL (z_cons (z_lcmpin x y) (z_tl (z_tl hS))) p l e Rm s m args below meth c Γ G H locs lsA hP hv hl)
theorem g_iand {x y : Nat} (hd : decode μ.2.1 pc = .ok (.iand, 1)) (k : z_R μ fin (pc + 1) ls (aI ((x &&& y : Nat) : Int) :: st) I) : z_R μ fin pc ls (aI (y : Int) :: aI (x : Int) :: st) I := by
  intro hC hL hS p l e Rm s m args below meth c Γ G H locs lsA hP hv hl
  refine lv_iand G.1 G.2.1 hd ?_
  rw [z_iandE]
  exact (k hC hL (z_cons (z_iandin (z_hd (z_tl hS)) (z_hd hS)) (z_tl (z_tl hS))) p l e Rm s m args below meth c Γ G H locs lsA hP hv hl)
theorem g_ior {x y : Nat} (hd : decode μ.2.1 pc = .ok (.ior, 1)) (k : z_R μ fin (pc + 1) ls (aI ((x ||| y : Nat) : Int) :: st) I) : z_R μ fin pc ls (aI (y : Int) :: aI (x : Int) :: st) I := by
  intro hC hL hS p l e Rm s m args below meth c Γ G H locs lsA hP hv hl
  refine lv_ior G.1 G.2.1 hd ?_
  rw [z_iorE]
  exact (k hC hL (z_cons (z_iorin (z_hd (z_tl hS)) (z_hd hS)) (z_tl (z_tl hS))) p l e Rm s m args below meth c Γ G H locs lsA hP hv hl)
theorem g_ixor {x y : Nat} (hd : decode μ.2.1 pc = .ok (.ixor, 1)) (k : z_R μ fin (pc + 1) ls (aI ((x ^^^ y : Nat) : Int) :: st) I) : z_R μ fin pc ls (aI (y : Int) :: aI (x : Int) :: st) I := by
  intro hC hL hS p l e Rm s m args below meth c Γ G H locs lsA hP hv hl
  refine lv_ixor G.1 G.2.1 hd ?_
  rw [z_ixorE]
  exact (k hC hL (z_cons (z_ixorin (z_hd (z_tl hS)) (z_hd hS)) (z_tl (z_tl hS))) p l e Rm s m args below meth c Γ G H locs lsA hP hv hl)
theorem g_iandm {x m9 : Int} {n9 : Nat} (hd : decode μ.2.1 pc = .ok (.iand, 1)) (hm : m9 = 2 ^ n9 - 1) (hn9 : n9 < 31) (k : z_R μ fin (pc + 1) ls (aI (x % 2 ^ n9) :: st) I) : z_R μ fin pc ls (aI m9 :: aI x :: st) I := by
  intro hC hL hS p l e Rm s m args below meth c Γ G H locs lsA hP hv hl
  refine lv_iand G.1 G.2.1 hd ?_
  subst hm
  rw [z_iandmE x hn9]
  exact (k hC hL (z_cons (z_iandmin x hn9) (z_tl (z_tl hS))) p l e Rm s m args below meth c Γ G H locs lsA hP hv hl)
theorem g_ishl {x n9 : Nat} (hd : decode μ.2.1 pc = .ok (.ishl, 1)) (hn : n9 < 31) (hr : x * 2 ^ n9 < 2147483648) (k : z_R μ fin (pc + 1) ls (aI ((x * 2 ^ n9 : Nat) : Int) :: st) I) : z_R μ fin pc ls (aI (n9 : Int) :: aI (x : Int) :: st) I := by
  intro hC hL hS p l e Rm s m args below meth c Γ G H locs lsA hP hv hl
  refine lv_ishl G.1 G.2.1 hd ?_
  rw [z_ishlE hn hr]
  exact (k hC hL (z_cons (z_natin hr) (z_tl (z_tl hS))) p l e Rm s m args below meth c Γ G H locs lsA hP hv hl)
theorem g_ishr {x n9 : Nat} (hd : decode μ.2.1 pc = .ok (.ishr, 1)) (hn : n9 < 32) (k : z_R μ fin (pc + 1) ls (aI ((x / 2 ^ n9 : Nat) : Int) :: st) I) : z_R μ fin pc ls (aI (n9 : Int) :: aI (x : Int) :: st) I := by
  intro hC hL hS p l e Rm s m args below meth c Γ G H locs lsA hP hv hl
  refine lv_ishr G.1 G.2.1 hd ?_
  rw [z_ishrE hn (z_hd (z_tl hS))]
  exact (k hC hL (z_cons (z_divin (z_hd (z_tl hS))) (z_tl (z_tl hS))) p l e Rm s m args below meth c Γ G H locs lsA hP hv hl)
theorem g_iushr {x n9 : Nat} (hd : decode μ.2.1 pc = .ok (.iushr, 1)) (hn : n9 < 32) (k : z_R μ fin (pc + 1) ls (aI ((x / 2 ^ n9 : Nat) : Int) :: st) I) : z_R μ fin pc ls (aI (n9 : Int) :: aI (x : Int) :: st) I := by
  intro hC hL hS p l e Rm s m args below meth c Γ G H locs lsA hP hv hl
  exact lv_iushr G.1 G.2.1 hd (z_iushrE hn (z_hd (z_tl hS))) (k hC hL (z_cons (z_divin (z_hd (z_tl hS))) (z_tl (z_tl hS))) p l e Rm s m args below meth c Γ G H locs lsA hP hv hl)
theorem g_land {x y : Nat} (hd : decode μ.2.1 pc = .ok (.land, 1)) (k : z_R μ fin (pc + 1) ls (aL ((x &&& y : Nat) : Int) :: st) I) : z_R μ fin pc ls (aL (y : Int) :: aL (x : Int) :: st) I := by
  intro hC hL hS p l e Rm s m args below meth c Γ G H locs lsA hP hv hl
  refine lv_land G.1 G.2.1 hd ?_
  rw [z_landE]
  exact (k hC hL (z_cons (z_landin (z_hd (z_tl hS)) (z_hd hS)) (z_tl (z_tl hS))) p l e Rm s m args below meth c Γ G H locs lsA hP hv hl)
theorem g_lor {x y : Nat} (hd : decode μ.2.1 pc = .ok (.lor, 1)) (k : z_R μ fin (pc + 1) ls (aL ((x ||| y : Nat) : Int) :: st) I) : z_R μ fin pc ls (aL (y : Int) :: aL (x : Int) :: st) I := by
  intro hC hL hS p l e Rm s m args below meth c Γ G H locs lsA hP hv hl
  refine lv_lor G.1 G.2.1 hd ?_
  rw [z_lorE]
  exact (k hC hL (z_cons (z_lorin (z_hd (z_tl hS)) (z_hd hS)) (z_tl (z_tl hS))) p l e Rm s m args below meth c Γ G H locs lsA hP hv hl)
theorem g_lshl {x n9 : Nat} (hd : decode μ.2.1 pc = .ok (.lshl, 1)) (hn : n9 < 63) (hr : x * 2 ^ n9 < 9223372036854775808) (k : z_R μ fin (pc + 1) ls (aL ((x * 2 ^ n9 : Nat) : Int) :: st) I) : z_R μ fin pc ls (aI (n9 : Int) :: aL (x : Int) :: st) I := by
  intro hC hL hS p l e Rm s m args below meth c Γ G H locs lsA hP hv hl
  exact lv_lshl G.1 G.2.1 hd (z_lshlE hn hr) (k hC hL (z_cons (z_natinL hr) (z_tl (z_tl hS))) p l e Rm s m args below meth c Γ G H locs lsA hP hv hl)
theorem g_lshr {x n9 : Nat} (hd : decode μ.2.1 pc = .ok (.lshr, 1)) (hn : n9 < 63) (k : z_R μ fin (pc + 1) ls (aL ((x / 2 ^ n9 : Nat) : Int) :: st) I) : z_R μ fin pc ls (aI (n9 : Int) :: aL (x : Int) :: st) I := by
  intro hC hL hS p l e Rm s m args below meth c Γ G H locs lsA hP hv hl
  exact lv_lshr G.1 G.2.1 hd (z_lshrE hn (z_hd (z_tl hS))) (k hC hL (z_cons (z_divinL (z_hd (z_tl hS))) (z_tl (z_tl hS))) p l e Rm s m args below meth c Γ G H locs lsA hP hv hl)
theorem g_dup {a : z_V} (hd : decode μ.2.1 pc = .ok (.dup, 1)) (ha : ∀ x, a ≠ aL x) (k : z_R μ fin (pc + 1) ls (a :: a :: st) I) : z_R μ fin pc ls (a :: st) I := by
  intro hC hL hS p l e Rm s m args below meth c Γ G H locs lsA hP hv hl
  exact lv_dup G.1 G.2.1 hd (z_cat1 ha) (k hC hL (z_cons (z_hd hS) hS) p l e Rm s m args below meth c Γ G H locs lsA hP hv hl)
theorem g_pop {a : z_V} (hd : decode μ.2.1 pc = .ok (.pop, 1)) (ha : ∀ x, a ≠ aL x) (k : z_R μ fin (pc + 1) ls st I) : z_R μ fin pc ls (a :: st) I := by
  intro hC hL hS p l e Rm s m args below meth c Γ G H locs lsA hP hv hl
  exact lv_pop G.1 G.2.1 hd (z_cat1 ha) (k hC hL (z_tl hS) p l e Rm s m args below meth c Γ G H locs lsA hP hv hl)
theorem g_dup2 {a b : z_V} (hd : decode μ.2.1 pc = .ok (.dup2, 1)) (ha : ∀ x, a ≠ aL x) (hb : ∀ x, b ≠ aL x) (k : z_R μ fin (pc + 1) ls (a :: b :: a :: b :: st) I) : z_R μ fin pc ls (a :: b :: st) I := by
  intro hC hL hS p l e Rm s m args below meth c Γ G H locs lsA hP hv hl
  exact lv_dup2_11 G.1 G.2.1 hd (z_cat1 ha) (z_cat1 hb) (k hC hL (z_cons (z_hd hS) (z_cons (z_hd (z_tl hS)) hS)) p l e Rm s m args below meth c Γ G H locs lsA hP hv hl)
theorem g_goto {off : Int} {tgt : Nat} (hd : decode μ.2.1 pc = .ok (.goto off, 3)) (ht : (pc : Int) + off = (tgt : Int)) (k : z_R μ fin tgt ls st I) : z_R μ fin pc ls st I := by
  intro hC hL hS p l e Rm s m args below meth c Γ G H locs lsA hP hv hl
  exact lv_goto G.1 G.2.1 hd ht (k hC hL hS p l e Rm s m args below meth c Γ G H locs lsA hP hv hl)
theorem g_icmp_eq {x y : Int} {off : Int} {tgt : Nat} (hd : decode μ.2.1 pc = .ok (.if_icmp .eq off, 3)) (ht : (pc : Int) + off = (tgt : Int)) (kt : x = y → z_R μ fin tgt ls st I) (kf : x ≠ y → z_R μ fin (pc + 3) ls st I) : z_R μ fin pc ls (aI y :: aI x :: st) I := by
  intro hC hL hS p l e Rm s m args below meth c Γ G H locs lsA hP hv hl
  have hy := z_hd hS
  have hx := z_hd (z_tl hS)
  exact lv_icmp_eq G.1 G.2.1 hd ht (fun q => kt ((z_ieq hx hy).mp q) hC hL (z_tl (z_tl hS)) p l e Rm s m args below meth c Γ G H locs lsA hP hv hl) (fun q => kf (fun z => q ((z_ieq hx hy).mpr z)) hC hL (z_tl (z_tl hS)) p l e Rm s m args below meth c Γ G H locs lsA hP hv hl)
theorem g_if_eq {x : Int} {off : Int} {tgt : Nat} (hd : decode μ.2.1 pc = .ok (.ifCond .eq off, 3)) (ht : (pc : Int) + off = (tgt : Int)) (kt : x = 0 → z_R μ fin tgt ls st I) (kf : x ≠ 0 → z_R μ fin (pc + 3) ls st I) : z_R μ fin pc ls (aI x :: st) I := by
  intro hC hL hS p l e Rm s m args below meth c Γ G H locs lsA hP hv hl
  have hy : inI 0 := by decide
  have hx := z_hd hS
  have h0 := z_i0
  exact lv_if_eq G.1 G.2.1 hd ht (fun q => by rw [← h0] at q; exact kt ((z_ieq hx hy).mp q) hC hL (z_tl hS) p l e Rm s m args below meth c Γ G H locs lsA hP hv hl) (fun q => by rw [← h0] at q; exact kf (fun z => q ((z_ieq hx hy).mpr z)) hC hL (z_tl hS) p l e Rm s m args below meth c Γ G H locs lsA hP hv hl)
theorem g_icmp_ne {x y : Int} {off : Int} {tgt : Nat} (hd : decode μ.2.1 pc = .ok (.if_icmp .ne off, 3)) (ht : (pc : Int) + off = (tgt : Int)) (kt : x ≠ y → z_R μ fin tgt ls st I) (kf : x = y → z_R μ fin (pc + 3) ls st I) : z_R μ fin pc ls (aI y :: aI x :: st) I := by
  intro hC hL hS p l e Rm s m args below meth c Γ G H locs lsA hP hv hl
  have hy := z_hd hS
  have hx := z_hd (z_tl hS)
  exact lv_icmp_ne G.1 G.2.1 hd ht (fun q => kt (fun z => q ((z_ieq hx hy).mpr z)) hC hL (z_tl (z_tl hS)) p l e Rm s m args below meth c Γ G H locs lsA hP hv hl) (fun q => kf ((z_ieq hx hy).mp q) hC hL (z_tl (z_tl hS)) p l e Rm s m args below meth c Γ G H locs lsA hP hv hl)
theorem g_if_ne {x : Int} {off : Int} {tgt : Nat} (hd : decode μ.2.1 pc = .ok (.ifCond .ne off, 3)) (ht : (pc : Int) + off = (tgt : Int)) (kt : x ≠ 0 → z_R μ fin tgt ls st I) (kf : x = 0 → z_R μ fin (pc + 3) ls st I) : z_R μ fin pc ls (aI x :: st) I := by
  intro hC hL hS p l e Rm s m args below meth c Γ G H locs lsA hP hv hl
  have hy : inI 0 := by decide
  have hx := z_hd hS
  have h0 := z_i0
  exact lv_if_ne G.1 G.2.1 hd ht (fun q => by rw [← h0] at q; exact kt (fun z => q ((z_ieq hx hy).mpr z)) hC hL (z_tl hS) p l e Rm s m args below meth c Γ G H locs lsA hP hv hl) (fun q => by rw [← h0] at q; exact kf ((z_ieq hx hy).mp q) hC hL (z_tl hS) p l e Rm s m args below meth c Γ G H locs lsA hP hv hl)
theorem g_icmp_lt {x y : Int} {off : Int} {tgt : Nat} (hd : decode μ.2.1 pc = .ok (.if_icmp .lt off, 3)) (ht : (pc : Int) + off = (tgt : Int)) (kt : x < y → z_R μ fin tgt ls st I) (kf : y ≤ x → z_R μ fin (pc + 3) ls st I) : z_R μ fin pc ls (aI y :: aI x :: st) I := by
  intro hC hL hS p l e Rm s m args below meth c Γ G H locs lsA hP hv hl
  have hy := z_hd hS
  have hx := z_hd (z_tl hS)
  exact lv_icmp_lt G.1 G.2.1 hd ht (fun q => kt ((z_ilt hx hy).mp q) hC hL (z_tl (z_tl hS)) p l e Rm s m args below meth c Γ G H locs lsA hP hv hl) (fun q => kf (Int.not_lt.mp (fun z => q ((z_ilt hx hy).mpr z))) hC hL (z_tl (z_tl hS)) p l e Rm s m args below meth c Γ G H locs lsA hP hv hl)
theorem g_if_lt {x : Int} {off : Int} {tgt : Nat} (hd : decode μ.2.1 pc = .ok (.ifCond .lt off, 3)) (ht : (pc : Int) + off = (tgt : Int)) (kt : x < 0 → z_R μ fin tgt ls st I) (kf : 0 ≤ x → z_R μ fin (pc + 3) ls st I) : z_R μ fin pc ls (aI x :: st) I := by
  intro hC hL hS p l e Rm s m args below meth c Γ G H locs lsA hP hv hl
  have hy : inI 0 := by decide
  have hx := z_hd hS
  have h0 := z_i0
  exact lv_if_lt G.1 G.2.1 hd ht (fun q => by rw [← h0] at q; exact kt ((z_ilt hx hy).mp q) hC hL (z_tl hS) p l e Rm s m args below meth c Γ G H locs lsA hP hv hl) (fun q => by rw [← h0] at q; exact kf (Int.not_lt.mp (fun z => q ((z_ilt hx hy).mpr z))) hC hL (z_tl hS) p l e Rm s m args below meth c Γ G H locs lsA hP hv hl)
theorem g_icmp_ge {x y : Int} {off : Int} {tgt : Nat} (hd : decode μ.2.1 pc = .ok (.if_icmp .ge off, 3)) (ht : (pc : Int) + off = (tgt : Int)) (kt : y ≤ x → z_R μ fin tgt ls st I) (kf : x < y → z_R μ fin (pc + 3) ls st I) : z_R μ fin pc ls (aI y :: aI x :: st) I := by
  intro hC hL hS p l e Rm s m args below meth c Γ G H locs lsA hP hv hl
  have hy := z_hd hS
  have hx := z_hd (z_tl hS)
  exact lv_icmp_ge G.1 G.2.1 hd ht (fun q => kt ((z_ile hy hx).mp q) hC hL (z_tl (z_tl hS)) p l e Rm s m args below meth c Γ G H locs lsA hP hv hl) (fun q => kf (Int.not_le.mp (fun z => q ((z_ile hy hx).mpr z))) hC hL (z_tl (z_tl hS)) p l e Rm s m args below meth c Γ G H locs lsA hP hv hl)
theorem g_if_ge {x : Int} {off : Int} {tgt : Nat} (hd : decode μ.2.1 pc = .ok (.ifCond .ge off, 3)) (ht : (pc : Int) + off = (tgt : Int)) (kt : 0 ≤ x → z_R μ fin tgt ls st I) (kf : x < 0 → z_R μ fin (pc + 3) ls st I) : z_R μ fin pc ls (aI x :: st) I := by
  intro hC hL hS p l e Rm s m args below meth c Γ G H locs lsA hP hv hl
  have hy : inI 0 := by decide
  have hx := z_hd hS
  have h0 := z_i0
  exact lv_if_ge G.1 G.2.1 hd ht (fun q => by rw [← h0] at q; exact kt ((z_ile hy hx).mp q) hC hL (z_tl hS) p l e Rm s m args below meth c Γ G H locs lsA hP hv hl) (fun q => by rw [← h0] at q; exact kf (Int.not_le.mp (fun z => q ((z_ile hy hx).mpr z))) hC hL (z_tl hS) p l e Rm s m args below meth c Γ G H locs lsA hP hv hl)
theorem g_icmp_gt {x y : Int} {off : Int} {tgt : Nat} (hd : decode μ.2.1 pc = .ok (.if_icmp .gt off, 3)) (ht : (pc : Int) + off = (tgt : Int)) (kt : y < x → z_R μ fin tgt ls st I) (kf : x ≤ y → z_R μ fin (pc + 3) ls st I) : z_R μ fin pc ls (aI y :: aI x :: st) I := by
  intro hC hL hS p l e Rm s m args below meth c Γ G H locs lsA hP hv hl
  have hy := z_hd hS
  have hx := z_hd (z_tl hS)
  exact lv_icmp_gt G.1 G.2.1 hd ht (fun q => kt ((z_ilt hy hx).mp q) hC hL (z_tl (z_tl hS)) p l e Rm s m args below meth c Γ G H locs lsA hP hv hl) (fun q => kf (Int.not_lt.mp (fun z => q ((z_ilt hy hx).mpr z))) hC hL (z_tl (z_tl hS)) p l e Rm s m args below meth c Γ G H locs lsA hP hv hl)
theorem g_if_gt {x : Int} {off : Int} {tgt : Nat} (hd : decode μ.2.1 pc = .ok (.ifCond .gt off, 3)) (ht : (pc : Int) + off = (tgt : Int)) (kt : 0 < x → z_R μ fin tgt ls st I) (kf : x ≤ 0 → z_R μ fin (pc + 3) ls st I) : z_R μ fin pc ls (aI x :: st) I := by
  intro hC hL hS p l e Rm s m args below meth c Γ G H locs lsA hP hv hl
  have hy : inI 0 := by decide
  have hx := z_hd hS
  have h0 := z_i0
  exact lv_if_gt G.1 G.2.1 hd ht (fun q => by rw [← h0] at q; exact kt ((z_ilt hy hx).mp q) hC hL (z_tl hS) p l e Rm s m args below meth c Γ G H locs lsA hP hv hl) (fun q => by rw [← h0] at q; exact kf (Int.not_lt.mp (fun z => q ((z_ilt hy hx).mpr z))) hC hL (z_tl hS) p l e Rm s m args below meth c Γ G H locs lsA hP hv hl)
theorem g_icmp_le {x y : Int} {off : Int} {tgt : Nat} (hd : decode μ.2.1 pc = .ok (.if_icmp .le off, 3)) (ht : (pc : Int) + off = (tgt : Int)) (kt : x ≤ y → z_R μ fin tgt ls st I) (kf : y < x → z_R μ fin (pc + 3) ls st I) : z_R μ fin pc ls (aI y :: aI x :: st) I := by
  intro hC hL hS p l e Rm s m args below meth c Γ G H locs lsA hP hv hl
  have hy := z_hd hS
  have hx := z_hd (z_tl hS)
  exact lv_icmp_le G.1 G.2.1 hd ht (fun q => kt ((z_ile hx hy).mp q) hC hL (z_tl (z_tl hS)) p l e Rm s m args below meth c Γ G H locs lsA hP hv hl) (fun q => kf (Int.not_le.mp (fun z => q ((z_ile hx hy).mpr z))) hC hL (z_tl (z_tl hS)) p l e Rm s m args below meth c Γ G H locs lsA hP hv hl)
theorem g_if_le {x : Int} {off : Int} {tgt : Nat} (hd : decode μ.2.1 pc = .ok (.ifCond .le off, 3)) (ht : (pc : Int) + off = (tgt : Int)) (kt : x ≤ 0 → z_R μ fin tgt ls st I) (kf : 0 < x → z_R μ fin (pc + 3) ls st I) : z_R μ fin pc ls (aI x :: st) I := by
  intro hC hL hS p l e Rm s m args below meth c Γ G H locs lsA hP hv hl
  have hy : inI 0 := by decide
  have hx := z_hd hS
  have h0 := z_i0
  exact lv_if_le G.1 G.2.1 hd ht (fun q => by rw [← h0] at q; exact kt ((z_ile hx hy).mp q) hC hL (z_tl hS) p l e Rm s m args below meth c Γ G H locs lsA hP hv hl) (fun q => by rw [← h0] at q; exact kf (Int.not_le.mp (fun z => q ((z_ile hx hy).mpr z))) hC hL (z_tl hS) p l e Rm s m args below meth c Γ G H locs lsA hP hv hl)
theorem g_tabIn {dflt lo hi : Int} {offs : Array Int} {len : Nat} {x : Int} {off : Int} {tgt : Nat} (hd : decode μ.2.1 pc = .ok (.tableswitch dflt lo hi offs, len)) (h1 : lo ≤ x) (h2 : x ≤ hi) (ho : offs[(x - lo).toNat]? = some off) (ht : (pc : Int) + off = (tgt : Int)) (k : z_R μ fin tgt ls st I) : z_R μ fin pc ls (aI x :: st) I := by
  intro hC hL hS p l e Rm s m args below meth c Γ G H locs lsA hP hv hl
  have hx := z_iT (z_hd hS)
  exact lv_tableIn G.1 G.2.1 hd (by rw [hx]; omega) (by rw [hx]; omega) (by rw [hx]; exact ho) ht (k hC hL (z_tl hS) p l e Rm s m args below meth c Γ G H locs lsA hP hv hl)
theorem g_tabOut {dflt lo hi : Int} {offs : Array Int} {len : Nat} {x : Int} {tgt : Nat} (hd : decode μ.2.1 pc = .ok (.tableswitch dflt lo hi offs, len)) (h : x < lo ∨ hi < x) (ht : (pc : Int) + dflt = (tgt : Int)) (k : z_R μ fin tgt ls st I) : z_R μ fin pc ls (aI x :: st) I := by
  intro hC hL hS p l e Rm s m args below meth c Γ G H locs lsA hP hv hl
  have hx := z_iT (z_hd hS)
  exact lv_tableOut G.1 G.2.1 hd (by rw [hx]; exact h) ht (k hC hL (z_tl hS) p l e Rm s m args below meth c Γ G H locs lsA hP hv hl)
end ZR
