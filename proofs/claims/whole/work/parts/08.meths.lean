/-! names of methods, judgements, contracts, entries -/
def cqI (Q : Int → z_M → Prop) : Option z_V → z_M → Prop := fun r I => ∃ x : Int, r = some (aI x) ∧ Q x I
def cqL (Q : Int → z_M → Prop) : Option z_V → z_M → Prop := fun r I => ∃ x : Int, r = some (aL x) ∧ Q x I
def cqR (Q : Nat → z_M → Prop) : Option z_V → z_M → Prop := fun r I => ∃ x : Nat, r = some (aR x) ∧ Q x I
def cqV (Q : z_M → Prop) : Option z_V → z_M → Prop := fun r I => r = none ∧ Q I
theorem zn_1 : z_n 1 = 6 := by decide
theorem zn_9 : z_n 9 = 25 := by decide
theorem zn_10 : z_n 10 = 8 := by decide
theorem zn_11 : z_n 11 = 8 := by decide
theorem zn_12 : z_n 12 = 8 := by decide
theorem zn_13 : z_n 13 = 8 := by decide
theorem zn_14 : z_n 14 = 3 := by decide
theorem zn_15 : z_n 15 = 24 := by decide
theorem zn_16 : z_n 16 = 24 := by decide
theorem zn_18 : z_n 18 = 136 := by decide
theorem zn_20 : z_n 20 = 25 := by decide
theorem zn_21 : z_n 21 = 8 := by decide
theorem zn_22 : z_n 22 = 8 := by decide
theorem zn_23 : z_n 23 = 8 := by decide
theorem zn_24 : z_n 24 = 8 := by decide
theorem zn_25 : z_n 25 = 3 := by decide
theorem zn_26 : z_n 26 = 24 := by decide
theorem zn_27 : z_n 27 = 24 := by decide
theorem zn_29 : z_n 29 = 136 := by decide
theorem zn_30 : z_n 30 = 2 := by decide
theorem zn_53 : z_n 53 = 2 := by decide
theorem zn_55 : z_n 55 = 150 := by decide
theorem zn_56 : z_n 56 = 5 := by decide
theorem zn_58 : z_n 58 = 160 := by decide
theorem zn_59 : z_n 59 = 6 := by decide
theorem zn_61 : z_n 61 = 249 := by decide
theorem zn_62 : z_n 62 = 498 := by decide
theorem zn_63 : z_n 63 = 2 := by decide
theorem zn_64 : z_n 64 = 3 := by decide
theorem zn_65 : z_n 65 = 8 := by decide
theorem zn_66 : z_n 66 = 8 := by decide
theorem zn_67 : z_n 67 = 8 := by decide
theorem zn_68 : z_n 68 = 5 := by decide
theorem zn_69 : z_n 69 = 5 := by decide
theorem zn_70 : z_n 70 = 6 := by decide
theorem zn_71 : z_n 71 = 150 := by decide
theorem zn_72 : z_n 72 = 113 := by decide
theorem zn_73 : z_n 73 = 5 := by decide
theorem z_rf4 {b : Nat} (hb : z_cl b = 4) {j q : Nat} (h : b + (j - 3) = q) : z_rf b j = q := by unfold z_rf; rw [if_pos hb, h]
theorem z_rf5 {b : Nat} (hb : z_cl b = 5) {j q : Nat} (h : b + 1 = q) : z_rf b j = q := by unfold z_rf; rw [if_neg (by omega), if_pos hb, h]
theorem z_ncl {c N : Nat} (h : ∀ k, k < 74 → z_cl k = c → z_n k = N) (hc : c < 99) {b : Nat} (hb : z_cl b = c) : z_n b = N := h b (z_lt hb hc) hb
theorem z_nc0 {b : Nat} (hb : z_cl b = 0) : z_n b = 0 := z_ncl (c := 0) (by decide) (by decide) hb
theorem z_nc1 {b : Nat} (hb : z_cl b = 1) : z_n b = 0 := z_ncl (c := 1) (by decide) (by decide) hb
theorem z_nc2 {b : Nat} (hb : z_cl b = 2) : z_n b = 0 := z_ncl (c := 2) (by decide) (by decide) hb
theorem z_nc3 {b : Nat} (hb : z_cl b = 3) : z_n b = 0 := z_ncl (c := 3) (by decide) (by decide) hb
theorem z_nc4 {b : Nat} (hb : z_cl b = 4) : z_n b = 13 := z_ncl (c := 4) (by decide) (by decide) hb
theorem z_nc5 {b : Nat} (hb : z_cl b = 5) : z_n b = 3 := z_ncl (c := 5) (by decide) (by decide) hb
theorem z_nc6 {b : Nat} (hb : z_cl b = 6) : z_n b = 0 := z_ncl (c := 6) (by decide) (by decide) hb
theorem z_nc7 {b : Nat} (hb : z_cl b = 7) : z_n b = 0 := z_ncl (c := 7) (by decide) (by decide) hb
theorem z_nc8 {b : Nat} (hb : z_cl b = 8) : z_n b = 7 := z_ncl (c := 8) (by decide) (by decide) hb
theorem z_nc9 {b : Nat} (hb : z_cl b = 9) : z_n b = 3 := z_ncl (c := 9) (by decide) (by decide) hb
theorem z_nc10 {b : Nat} (hb : z_cl b = 10) : z_n b = 13 := z_ncl (c := 10) (by decide) (by decide) hb
theorem z_nc11 {b : Nat} (hb : z_cl b = 11) : z_n b = 23 := z_ncl (c := 11) (by decide) (by decide) hb
/-- an Organ's rows stand behind it -/
theorem z_o {b : Nat} (hb : z_cl b = 4) : z_cl (b + 1) = 20 ∧ z_cl (b + 2) = 20 ∧ z_cl (b + 3) = 20 ∧ z_cl (b + 4) = 20 ∧ z_cl (b + 5) = 20 ∧ z_cl (b + 6) = 20 ∧ z_cl (b + 7) = 20 ∧ z_cl (b + 8) = 20 ∧ z_cl (b + 9) = 5 ∧ z_cl (b + 10) = 20 ∧ z_n (b + 1) = 25 ∧ z_n (b + 2) = 8 ∧ z_n (b + 3) = 8 ∧ z_n (b + 4) = 8 ∧ z_n (b + 5) = 8 ∧ z_n (b + 6) = 3 ∧ z_n (b + 7) = 24 ∧ z_n (b + 8) = 24 ∧ z_n (b + 10) = 136 := by
  have h : ∀ k, k < 74 → z_cl k = 4 → k = 8 ∨ k = 19 ∨ k = 31 ∨ k = 42 := by decide
  rcases h b (z_lt hb (by decide)) hb with rfl | rfl | rfl | rfl <;> decide
theorem z_p {b : Nat} (hb : z_cl b = 5) : z_cl (b + 1) = 20 ∧ z_n (b + 1) = 136 := by
  have h : ∀ k, k < 74 → z_cl k = 5 → k = 17 ∨ k = 28 ∨ k = 40 ∨ k = 51 := by decide
  rcases h b (z_lt hb (by decide)) hb with rfl | rfl | rfl | rfl <;> decide
/-- bits as numbers -/
def zand (x y : Int) : Int := ((x.toNat &&& y.toNat : Nat) : Int)
def zor (x y : Int) : Int := ((x.toNat ||| y.toNat : Nat) : Int)
def zxor (x y : Int) : Int := ((x.toNat ^^^ y.toNat : Nat) : Int)
def zshl (x n : Int) : Int := ((x.toNat * 2 ^ n.toNat : Nat) : Int)
def zshr (x n : Int) : Int := ((x.toNat / 2 ^ n.toNat : Nat) : Int)
theorem zshl_lt {y : Int} (h0 : 0 ≤ y) (h : y < 31) : zshl 1 y < 2147483648 := by
  obtain ⟨n, rfl⟩ := z_nat h0
  have : 2 ^ n < 2 ^ 31 := Nat.pow_lt_pow_right (by decide) (by omega)
  unfold zshl
  simp only [Int.toNat_natCast]
  have e : (1 : Int).toNat = 1 := rfl
  rw [e, Nat.one_mul]
  omega
theorem zshl_ltL {y : Int} (h0 : 0 ≤ y) (h : y < 63) : zshl 1 y < 9223372036854775808 := by
  obtain ⟨n, rfl⟩ := z_nat h0
  have : 2 ^ n < 2 ^ 63 := Nat.pow_lt_pow_right (by decide) (by omega)
  unfold zshl
  simp only [Int.toNat_natCast]
  have e : (1 : Int).toNat = 1 := rfl
  rw [e, Nat.one_mul]
  omega
section ZZ
variable {μ : z_Mt} {fin : z_Fin} {pc : Nat} {ls st : List z_V} {I : z_M}
theorem g_iandz {x y : Int} (hd : decode μ.2.1 pc = .ok (.iand, 1)) (hx : 0 ≤ x) (hy : 0 ≤ y) (k : z_R μ fin (pc + 1) ls (aI (zand x y) :: st) I) : z_R μ fin pc ls (aI y :: aI x :: st) I := by
  obtain ⟨a, rfl⟩ := z_nat hx
  obtain ⟨b, rfl⟩ := z_nat hy
  exact g_iand hd k
theorem g_iorz {x y : Int} (hd : decode μ.2.1 pc = .ok (.ior, 1)) (hx : 0 ≤ x) (hy : 0 ≤ y) (k : z_R μ fin (pc + 1) ls (aI (zor x y) :: st) I) : z_R μ fin pc ls (aI y :: aI x :: st) I := by
  obtain ⟨a, rfl⟩ := z_nat hx
  obtain ⟨b, rfl⟩ := z_nat hy
  exact g_ior hd k
theorem g_ixorz {x y : Int} (hd : decode μ.2.1 pc = .ok (.ixor, 1)) (hx : 0 ≤ x) (hy : 0 ≤ y) (k : z_R μ fin (pc + 1) ls (aI (zxor x y) :: st) I) : z_R μ fin pc ls (aI y :: aI x :: st) I := by
  obtain ⟨a, rfl⟩ := z_nat hx
  obtain ⟨b, rfl⟩ := z_nat hy
  exact g_ixor hd k
theorem g_landz {x y : Int} (hd : decode μ.2.1 pc = .ok (.land, 1)) (hx : 0 ≤ x) (hy : 0 ≤ y) (k : z_R μ fin (pc + 1) ls (aL (zand x y) :: st) I) : z_R μ fin pc ls (aL y :: aL x :: st) I := by
  obtain ⟨a, rfl⟩ := z_nat hx
  obtain ⟨b, rfl⟩ := z_nat hy
  exact g_land hd k
theorem g_lorz {x y : Int} (hd : decode μ.2.1 pc = .ok (.lor, 1)) (hx : 0 ≤ x) (hy : 0 ≤ y) (k : z_R μ fin (pc + 1) ls (aL (zor x y) :: st) I) : z_R μ fin pc ls (aL y :: aL x :: st) I := by
  obtain ⟨a, rfl⟩ := z_nat hx
  obtain ⟨b, rfl⟩ := z_nat hy
  exact g_lor hd k
theorem g_ishlz {x n9 : Int} (hd : decode μ.2.1 pc = .ok (.ishl, 1)) (hx : 0 ≤ x) (hn : 0 ≤ n9) (hn2 : n9 < 31) (hr : zshl x n9 < 2147483648) (k : z_R μ fin (pc + 1) ls (aI (zshl x n9) :: st) I) : z_R μ fin pc ls (aI n9 :: aI x :: st) I := by
  obtain ⟨a, rfl⟩ := z_nat hx
  obtain ⟨b, rfl⟩ := z_nat hn
  exact g_ishl hd (by omega) (by unfold zshl at hr; simp only [Int.toNat_natCast] at hr; omega) k
theorem g_ishrz {x n9 : Int} (hd : decode μ.2.1 pc = .ok (.ishr, 1)) (hx : 0 ≤ x) (hn : 0 ≤ n9) (hn2 : n9 < 32) (k : z_R μ fin (pc + 1) ls (aI (zshr x n9) :: st) I) : z_R μ fin pc ls (aI n9 :: aI x :: st) I := by
  obtain ⟨a, rfl⟩ := z_nat hx
  obtain ⟨b, rfl⟩ := z_nat hn
  exact g_ishr hd (by omega) k
theorem g_iushrz {x n9 : Int} (hd : decode μ.2.1 pc = .ok (.iushr, 1)) (hx : 0 ≤ x) (hn : 0 ≤ n9) (hn2 : n9 < 32) (k : z_R μ fin (pc + 1) ls (aI (zshr x n9) :: st) I) : z_R μ fin pc ls (aI n9 :: aI x :: st) I := by
  obtain ⟨a, rfl⟩ := z_nat hx
  obtain ⟨b, rfl⟩ := z_nat hn
  exact g_iushr hd (by omega) k
theorem g_lshlz {x n9 : Int} (hd : decode μ.2.1 pc = .ok (.lshl, 1)) (hx : 0 ≤ x) (hn : 0 ≤ n9) (hn2 : n9 < 63) (hr : zshl x n9 < 9223372036854775808) (k : z_R μ fin (pc + 1) ls (aL (zshl x n9) :: st) I) : z_R μ fin pc ls (aI n9 :: aL x :: st) I := by
  obtain ⟨a, rfl⟩ := z_nat hx
  obtain ⟨b, rfl⟩ := z_nat hn
  exact g_lshl hd (by omega) (by unfold zshl at hr; simp only [Int.toNat_natCast] at hr; omega) k
theorem g_lshrz {x n9 : Int} (hd : decode μ.2.1 pc = .ok (.lshr, 1)) (hx : 0 ≤ x) (hn : 0 ≤ n9) (hn2 : n9 < 63) (k : z_R μ fin (pc + 1) ls (aL (zshr x n9) :: st) I) : z_R μ fin pc ls (aI n9 :: aL x :: st) I := by
  obtain ⟨a, rfl⟩ := z_nat hx
  obtain ⟨b, rfl⟩ := z_nat hn
  exact g_lshr hd (by omega) k
end ZZ
def qX0_mayGo : Room := { frames := 1, cells := 0, slots := 0, locals := 22 }
theorem pdX0_mayGo : yX0_mayGo.cls ≠ "java/lang/invoke/MethodHandle" ∧ yX0_mayGo.cls ≠ "java/lang/invoke/VarHandle" ∧ (parseMethodDescriptor yX0_mayGo.desc).map (fun d => d.parameters.length) = some 2 := by decide +kernel
abbrev kX0_mayGo : z_Mt := z_mt yX0_mayGo.cls cX0_mayGo 3 (some .boolean) qX0_mayGo
def JX0_mayGo (Q : Int → z_M → Prop) (pc : Nat) (ls st : List z_V) (I : z_M) : Prop := z_R kX0_mayGo (z_fin (cqI Q)) pc ls st I
def CX0_mayGo (As : List z_V) (I : z_M) (Q : Int → z_M → Prop) : Prop := z_C yX0_mayGo cX0_mayGo 3 (some .boolean) qX0_mayGo As I (cqI Q)
theorem eX0_mayGo {b : Nat} {x0 : Nat} {x1 : Int} {I : z_M} {Q : Int → z_M → Prop} (k : JX0_mayGo Q 0 [aR b, aR x0, aI x1] [] I) : CX0_mayGo [aR b, aR x0, aI x1] I Q := z_intro (by decide +kernel) 0 (Nat.le_of_ble_eq_true rfl) k
theorem vX0_mayGo {As : List z_V} {I : z_M} {Q : Int → z_M → Prop} (k : z_CI I → CX0_mayGo As I Q) : CX0_mayGo As I Q := fun hC hA => k hC hC hA
theorem lX0_mayGo {Q : Int → z_M → Prop} {pc : Nat} {ls' ls st : List z_V} {I : z_M} (k : JX0_mayGo Q pc ls' st I) (h : ∀ (i : Nat) (v : z_V), ls'[i]? = some v → v ≠ aU → ls[i]? = some v) : JX0_mayGo Q pc ls st I := g_weak h k
def qX1_mayGo : Room := { frames := 1, cells := 0, slots := 0, locals := 22 }
theorem pdX1_mayGo : yX1_mayGo.cls ≠ "java/lang/invoke/MethodHandle" ∧ yX1_mayGo.cls ≠ "java/lang/invoke/VarHandle" ∧ (parseMethodDescriptor yX1_mayGo.desc).map (fun d => d.parameters.length) = some 2 := by decide +kernel
abbrev kX1_mayGo : z_Mt := z_mt yX1_mayGo.cls cX1_mayGo 3 (some .boolean) qX1_mayGo
def JX1_mayGo (Q : Int → z_M → Prop) (pc : Nat) (ls st : List z_V) (I : z_M) : Prop := z_R kX1_mayGo (z_fin (cqI Q)) pc ls st I
def CX1_mayGo (As : List z_V) (I : z_M) (Q : Int → z_M → Prop) : Prop := z_C yX1_mayGo cX1_mayGo 3 (some .boolean) qX1_mayGo As I (cqI Q)
theorem eX1_mayGo {b : Nat} {x0 : Nat} {x1 : Int} {I : z_M} {Q : Int → z_M → Prop} (k : JX1_mayGo Q 0 [aR b, aR x0, aI x1] [] I) : CX1_mayGo [aR b, aR x0, aI x1] I Q := z_intro (by decide +kernel) 0 (Nat.le_of_ble_eq_true rfl) k
theorem vX1_mayGo {As : List z_V} {I : z_M} {Q : Int → z_M → Prop} (k : z_CI I → CX1_mayGo As I Q) : CX1_mayGo As I Q := fun hC hA => k hC hC hA
theorem lX1_mayGo {Q : Int → z_M → Prop} {pc : Nat} {ls' ls st : List z_V} {I : z_M} (k : JX1_mayGo Q pc ls' st I) (h : ∀ (i : Nat) (v : z_V), ls'[i]? = some v → v ≠ aU → ls[i]? = some v) : JX1_mayGo Q pc ls st I := g_weak h k
def qX2_comesBack : Room := { frames := 2, cells := 0, slots := 0, locals := 44 }
theorem pdX2_comesBack : yX2_comesBack.cls ≠ "java/lang/invoke/MethodHandle" ∧ yX2_comesBack.cls ≠ "java/lang/invoke/VarHandle" ∧ (parseMethodDescriptor yX2_comesBack.desc).map (fun d => d.parameters.length) = some 2 := by decide +kernel
abbrev kX2_comesBack : z_Mt := z_mt yX2_comesBack.cls cX2_comesBack 3 (some .boolean) qX2_comesBack
def JX2_comesBack (Q : Int → z_M → Prop) (pc : Nat) (ls st : List z_V) (I : z_M) : Prop := z_R kX2_comesBack (z_fin (cqI Q)) pc ls st I
def CX2_comesBack (As : List z_V) (I : z_M) (Q : Int → z_M → Prop) : Prop := z_C yX2_comesBack cX2_comesBack 3 (some .boolean) qX2_comesBack As I (cqI Q)
theorem eX2_comesBack {b : Nat} {x0 : Nat} {x1 : Int} {I : z_M} {Q : Int → z_M → Prop} (k : JX2_comesBack Q 0 [aR b, aR x0, aI x1] [] I) : CX2_comesBack [aR b, aR x0, aI x1] I Q := z_intro (by decide +kernel) 0 (Nat.le_of_ble_eq_true rfl) k
theorem vX2_comesBack {As : List z_V} {I : z_M} {Q : Int → z_M → Prop} (k : z_CI I → CX2_comesBack As I Q) : CX2_comesBack As I Q := fun hC hA => k hC hC hA
theorem lX2_comesBack {Q : Int → z_M → Prop} {pc : Nat} {ls' ls st : List z_V} {I : z_M} (k : JX2_comesBack Q pc ls' st I) (h : ∀ (i : Nat) (v : z_V), ls'[i]? = some v → v ≠ aU → ls[i]? = some v) : JX2_comesBack Q pc ls st I := g_weak h k
def qX3_mayGo : Room := { frames := 2, cells := 0, slots := 0, locals := 44 }
theorem pdX3_mayGo : yX3_mayGo.cls ≠ "java/lang/invoke/MethodHandle" ∧ yX3_mayGo.cls ≠ "java/lang/invoke/VarHandle" ∧ (parseMethodDescriptor yX3_mayGo.desc).map (fun d => d.parameters.length) = some 2 := by decide +kernel
abbrev kX3_mayGo : z_Mt := z_mt yX3_mayGo.cls cX3_mayGo 3 (some .boolean) qX3_mayGo
def JX3_mayGo (Q : Int → z_M → Prop) (pc : Nat) (ls st : List z_V) (I : z_M) : Prop := z_R kX3_mayGo (z_fin (cqI Q)) pc ls st I
def CX3_mayGo (As : List z_V) (I : z_M) (Q : Int → z_M → Prop) : Prop := z_C yX3_mayGo cX3_mayGo 3 (some .boolean) qX3_mayGo As I (cqI Q)
theorem eX3_mayGo {b : Nat} {x0 : Nat} {x1 : Int} {I : z_M} {Q : Int → z_M → Prop} (k : JX3_mayGo Q 0 [aR b, aR x0, aI x1] [] I) : CX3_mayGo [aR b, aR x0, aI x1] I Q := z_intro (by decide +kernel) 0 (Nat.le_of_ble_eq_true rfl) k
theorem vX3_mayGo {As : List z_V} {I : z_M} {Q : Int → z_M → Prop} (k : z_CI I → CX3_mayGo As I Q) : CX3_mayGo As I Q := fun hC hA => k hC hC hA
theorem lX3_mayGo {Q : Int → z_M → Prop} {pc : Nat} {ls' ls st : List z_V} {I : z_M} (k : JX3_mayGo Q pc ls' st I) (h : ∀ (i : Nat) (v : z_V), ls'[i]? = some v → v ≠ aU → ls[i]? = some v) : JX3_mayGo Q pc ls st I := g_weak h k
def qX3_comesBack : Room := { frames := 0, cells := 0, slots := 0, locals := 0 }
theorem pdX3_comesBack : yX3_comesBack.cls ≠ "java/lang/invoke/MethodHandle" ∧ yX3_comesBack.cls ≠ "java/lang/invoke/VarHandle" ∧ (parseMethodDescriptor yX3_comesBack.desc).map (fun d => d.parameters.length) = some 2 := by decide +kernel
abbrev kX3_comesBack : z_Mt := z_mt yX3_comesBack.cls cX3_comesBack 3 (some .boolean) qX3_comesBack
def JX3_comesBack (Q : Int → z_M → Prop) (pc : Nat) (ls st : List z_V) (I : z_M) : Prop := z_R kX3_comesBack (z_fin (cqI Q)) pc ls st I
def CX3_comesBack (As : List z_V) (I : z_M) (Q : Int → z_M → Prop) : Prop := z_C yX3_comesBack cX3_comesBack 3 (some .boolean) qX3_comesBack As I (cqI Q)
theorem eX3_comesBack {b : Nat} {x0 : Nat} {x1 : Int} {I : z_M} {Q : Int → z_M → Prop} (k : JX3_comesBack Q 0 [aR b, aR x0, aI x1] [] I) : CX3_comesBack [aR b, aR x0, aI x1] I Q := z_intro (by decide +kernel) 0 (Nat.le_of_ble_eq_true rfl) k
theorem vX3_comesBack {As : List z_V} {I : z_M} {Q : Int → z_M → Prop} (k : z_CI I → CX3_comesBack As I Q) : CX3_comesBack As I Q := fun hC hA => k hC hC hA
theorem lX3_comesBack {Q : Int → z_M → Prop} {pc : Nat} {ls' ls st : List z_V} {I : z_M} (k : JX3_comesBack Q pc ls' st I) (h : ∀ (i : Nat) (v : z_V), ls'[i]? = some v → v ≠ aU → ls[i]? = some v) : JX3_comesBack Q pc ls st I := g_weak h k
def qX4_reset : Room := { frames := 1, cells := 0, slots := 0, locals := 21 }
theorem pdX4_reset : yX4_reset.cls ≠ "java/lang/invoke/MethodHandle" ∧ yX4_reset.cls ≠ "java/lang/invoke/VarHandle" ∧ (parseMethodDescriptor yX4_reset.desc).map (fun d => d.parameters.length) = some 0 := by decide +kernel
abbrev kX4_reset : z_Mt := z_mt yX4_reset.cls cX4_reset 2 none qX4_reset
def JX4_reset (Q : z_M → Prop) (pc : Nat) (ls st : List z_V) (I : z_M) : Prop := z_R kX4_reset (z_fin (cqV Q)) pc ls st I
def CX4_reset (As : List z_V) (I : z_M) (Q : z_M → Prop) : Prop := z_C yX4_reset cX4_reset 2 none qX4_reset As I (cqV Q)
theorem eX4_reset {b : Nat} {I : z_M} {Q : z_M → Prop} (k : JX4_reset Q 0 [aR b, aU] [] I) : CX4_reset [aR b] I Q := z_intro (by decide +kernel) 1 (Nat.le_of_ble_eq_true rfl) k
theorem vX4_reset {As : List z_V} {I : z_M} {Q : z_M → Prop} (k : z_CI I → CX4_reset As I Q) : CX4_reset As I Q := fun hC hA => k hC hC hA
theorem lX4_reset {Q : z_M → Prop} {pc : Nat} {ls' ls st : List z_V} {I : z_M} (k : JX4_reset Q pc ls' st I) (h : ∀ (i : Nat) (v : z_V), ls'[i]? = some v → v ≠ aU → ls[i]? = some v) : JX4_reset Q pc ls st I := g_weak h k
def qX4_takeStage : Room := { frames := 1, cells := 0, slots := 0, locals := 18 }
theorem pdX4_takeStage : yX4_takeStage.cls ≠ "java/lang/invoke/MethodHandle" ∧ yX4_takeStage.cls ≠ "java/lang/invoke/VarHandle" ∧ (parseMethodDescriptor yX4_takeStage.desc).map (fun d => d.parameters.length) = some 1 := by decide +kernel
abbrev kX4_takeStage : z_Mt := z_mt yX4_takeStage.cls cX4_takeStage 2 none qX4_takeStage
def JX4_takeStage (Q : z_M → Prop) (pc : Nat) (ls st : List z_V) (I : z_M) : Prop := z_R kX4_takeStage (z_fin (cqV Q)) pc ls st I
def CX4_takeStage (As : List z_V) (I : z_M) (Q : z_M → Prop) : Prop := z_C yX4_takeStage cX4_takeStage 2 none qX4_takeStage As I (cqV Q)
theorem eX4_takeStage {b : Nat} {x0 : Nat} {I : z_M} {Q : z_M → Prop} (k : JX4_takeStage Q 0 [aR b, aR x0] [] I) : CX4_takeStage [aR b, aR x0] I Q := z_intro (by decide +kernel) 0 (Nat.le_of_ble_eq_true rfl) k
theorem vX4_takeStage {As : List z_V} {I : z_M} {Q : z_M → Prop} (k : z_CI I → CX4_takeStage As I Q) : CX4_takeStage As I Q := fun hC hA => k hC hC hA
theorem lX4_takeStage {Q : z_M → Prop} {pc : Nat} {ls' ls st : List z_V} {I : z_M} (k : JX4_takeStage Q pc ls' st I) (h : ∀ (i : Nat) (v : z_V), ls'[i]? = some v → v ≠ aU → ls[i]? = some v) : JX4_takeStage Q pc ls st I := g_weak h k
def qX4_takeAll : Room := { frames := 2, cells := 0, slots := 0, locals := 39 }
theorem pdX4_takeAll : yX4_takeAll.cls ≠ "java/lang/invoke/MethodHandle" ∧ yX4_takeAll.cls ≠ "java/lang/invoke/VarHandle" ∧ (parseMethodDescriptor yX4_takeAll.desc).map (fun d => d.parameters.length) = some 1 := by decide +kernel
abbrev kX4_takeAll : z_Mt := z_mt yX4_takeAll.cls cX4_takeAll 2 none qX4_takeAll
def JX4_takeAll (Q : z_M → Prop) (pc : Nat) (ls st : List z_V) (I : z_M) : Prop := z_R kX4_takeAll (z_fin (cqV Q)) pc ls st I
def CX4_takeAll (As : List z_V) (I : z_M) (Q : z_M → Prop) : Prop := z_C yX4_takeAll cX4_takeAll 2 none qX4_takeAll As I (cqV Q)
theorem eX4_takeAll {b : Nat} {x0 : Nat} {I : z_M} {Q : z_M → Prop} (k : JX4_takeAll Q 0 [aR b, aR x0] [] I) : CX4_takeAll [aR b, aR x0] I Q := z_intro (by decide +kernel) 0 (Nat.le_of_ble_eq_true rfl) k
theorem vX4_takeAll {As : List z_V} {I : z_M} {Q : z_M → Prop} (k : z_CI I → CX4_takeAll As I Q) : CX4_takeAll As I Q := fun hC hA => k hC hC hA
theorem lX4_takeAll {Q : z_M → Prop} {pc : Nat} {ls' ls st : List z_V} {I : z_M} (k : JX4_takeAll Q pc ls' st I) (h : ∀ (i : Nat) (v : z_V), ls'[i]? = some v → v ≠ aU → ls[i]? = some v) : JX4_takeAll Q pc ls st I := g_weak h k
def qX4_addPlace : Room := { frames := 0, cells := 0, slots := 0, locals := 0 }
theorem pdX4_addPlace : yX4_addPlace.cls ≠ "java/lang/invoke/MethodHandle" ∧ yX4_addPlace.cls ≠ "java/lang/invoke/VarHandle" ∧ (parseMethodDescriptor yX4_addPlace.desc).map (fun d => d.parameters.length) = some 5 := by decide +kernel
abbrev kX4_addPlace : z_Mt := z_mt yX4_addPlace.cls cX4_addPlace 7 (some .boolean) qX4_addPlace
def JX4_addPlace (Q : Int → z_M → Prop) (pc : Nat) (ls st : List z_V) (I : z_M) : Prop := z_R kX4_addPlace (z_fin (cqI Q)) pc ls st I
def CX4_addPlace (As : List z_V) (I : z_M) (Q : Int → z_M → Prop) : Prop := z_C yX4_addPlace cX4_addPlace 7 (some .boolean) qX4_addPlace As I (cqI Q)
theorem eX4_addPlace {b : Nat} {x0 : Int} {x1 : Int} {x2 : Int} {x3 : Int} {x4 : Int} {I : z_M} {Q : Int → z_M → Prop} (k : JX4_addPlace Q 0 [aR b, aI x0, aI x1, aI x2, aI x3, aI x4, aU] [] I) : CX4_addPlace [aR b, aI x0, aI x1, aI x2, aI x3, aI x4] I Q := z_intro (by decide +kernel) 1 (Nat.le_of_ble_eq_true rfl) k
theorem vX4_addPlace {As : List z_V} {I : z_M} {Q : Int → z_M → Prop} (k : z_CI I → CX4_addPlace As I Q) : CX4_addPlace As I Q := fun hC hA => k hC hC hA
theorem lX4_addPlace {Q : Int → z_M → Prop} {pc : Nat} {ls' ls st : List z_V} {I : z_M} (k : JX4_addPlace Q pc ls' st I) (h : ∀ (i : Nat) (v : z_V), ls'[i]? = some v → v ≠ aU → ls[i]? = some v) : JX4_addPlace Q pc ls st I := g_weak h k
def qX4_addPipe : Room := { frames := 1, cells := 0, slots := 0, locals := 21 }
theorem pdX4_addPipe : yX4_addPipe.cls ≠ "java/lang/invoke/MethodHandle" ∧ yX4_addPipe.cls ≠ "java/lang/invoke/VarHandle" ∧ (parseMethodDescriptor yX4_addPipe.desc).map (fun d => d.parameters.length) = some 2 := by decide +kernel
abbrev kX4_addPipe : z_Mt := z_mt yX4_addPipe.cls cX4_addPipe 3 (some .boolean) qX4_addPipe
def JX4_addPipe (Q : Int → z_M → Prop) (pc : Nat) (ls st : List z_V) (I : z_M) : Prop := z_R kX4_addPipe (z_fin (cqI Q)) pc ls st I
def CX4_addPipe (As : List z_V) (I : z_M) (Q : Int → z_M → Prop) : Prop := z_C yX4_addPipe cX4_addPipe 3 (some .boolean) qX4_addPipe As I (cqI Q)
theorem eX4_addPipe {b : Nat} {x0 : Int} {x1 : Int} {I : z_M} {Q : Int → z_M → Prop} (k : JX4_addPipe Q 0 [aR b, aI x0, aI x1] [] I) : CX4_addPipe [aR b, aI x0, aI x1] I Q := z_intro (by decide +kernel) 0 (Nat.le_of_ble_eq_true rfl) k
theorem vX4_addPipe {As : List z_V} {I : z_M} {Q : Int → z_M → Prop} (k : z_CI I → CX4_addPipe As I Q) : CX4_addPipe As I Q := fun hC hA => k hC hC hA
theorem lX4_addPipe {Q : Int → z_M → Prop} {pc : Nat} {ls' ls st : List z_V} {I : z_M} (k : JX4_addPipe Q pc ls' st I) (h : ∀ (i : Nat) (v : z_V), ls'[i]? = some v → v ≠ aU → ls[i]? = some v) : JX4_addPipe Q pc ls st I := g_weak h k
def qX4_addNote : Room := { frames := 0, cells := 0, slots := 0, locals := 0 }
theorem pdX4_addNote : yX4_addNote.cls ≠ "java/lang/invoke/MethodHandle" ∧ yX4_addNote.cls ≠ "java/lang/invoke/VarHandle" ∧ (parseMethodDescriptor yX4_addNote.desc).map (fun d => d.parameters.length) = some 2 := by decide +kernel
abbrev kX4_addNote : z_Mt := z_mt yX4_addNote.cls cX4_addNote 4 (some .boolean) qX4_addNote
def JX4_addNote (Q : Int → z_M → Prop) (pc : Nat) (ls st : List z_V) (I : z_M) : Prop := z_R kX4_addNote (z_fin (cqI Q)) pc ls st I
def CX4_addNote (As : List z_V) (I : z_M) (Q : Int → z_M → Prop) : Prop := z_C yX4_addNote cX4_addNote 4 (some .boolean) qX4_addNote As I (cqI Q)
theorem eX4_addNote {b : Nat} {x0 : Int} {x1 : Int} {I : z_M} {Q : Int → z_M → Prop} (k : JX4_addNote Q 0 [aR b, aI x0, aI x1, aU] [] I) : CX4_addNote [aR b, aI x0, aI x1] I Q := z_intro (by decide +kernel) 1 (Nat.le_of_ble_eq_true rfl) k
theorem vX4_addNote {As : List z_V} {I : z_M} {Q : Int → z_M → Prop} (k : z_CI I → CX4_addNote As I Q) : CX4_addNote As I Q := fun hC hA => k hC hC hA
theorem lX4_addNote {Q : Int → z_M → Prop} {pc : Nat} {ls' ls st : List z_V} {I : z_M} (k : JX4_addNote Q pc ls' st I) (h : ∀ (i : Nat) (v : z_V), ls'[i]? = some v → v ≠ aU → ls[i]? = some v) : JX4_addNote Q pc ls st I := g_weak h k
def qX4_emptyHymn : Room := { frames := 0, cells := 0, slots := 0, locals := 0 }
theorem pdX4_emptyHymn : yX4_emptyHymn.cls ≠ "java/lang/invoke/MethodHandle" ∧ yX4_emptyHymn.cls ≠ "java/lang/invoke/VarHandle" ∧ (parseMethodDescriptor yX4_emptyHymn.desc).map (fun d => d.parameters.length) = some 1 := by decide +kernel
abbrev kX4_emptyHymn : z_Mt := z_mt yX4_emptyHymn.cls cX4_emptyHymn 2 none qX4_emptyHymn
def JX4_emptyHymn (Q : z_M → Prop) (pc : Nat) (ls st : List z_V) (I : z_M) : Prop := z_R kX4_emptyHymn (z_fin (cqV Q)) pc ls st I
def CX4_emptyHymn (As : List z_V) (I : z_M) (Q : z_M → Prop) : Prop := z_C yX4_emptyHymn cX4_emptyHymn 2 none qX4_emptyHymn As I (cqV Q)
theorem eX4_emptyHymn {b : Nat} {x0 : Int} {I : z_M} {Q : z_M → Prop} (k : JX4_emptyHymn Q 0 [aR b, aI x0] [] I) : CX4_emptyHymn [aR b, aI x0] I Q := z_intro (by decide +kernel) 0 (Nat.le_of_ble_eq_true rfl) k
theorem vX4_emptyHymn {As : List z_V} {I : z_M} {Q : z_M → Prop} (k : z_CI I → CX4_emptyHymn As I Q) : CX4_emptyHymn As I Q := fun hC hA => k hC hC hA
theorem lX4_emptyHymn {Q : z_M → Prop} {pc : Nat} {ls' ls st : List z_V} {I : z_M} (k : JX4_emptyHymn Q pc ls' st I) (h : ∀ (i : Nat) (v : z_V), ls'[i]? = some v → v ≠ aU → ls[i]? = some v) : JX4_emptyHymn Q pc ls st I := g_weak h k
def qX4_addReading : Room := { frames := 0, cells := 0, slots := 0, locals := 0 }
theorem pdX4_addReading : yX4_addReading.cls ≠ "java/lang/invoke/MethodHandle" ∧ yX4_addReading.cls ≠ "java/lang/invoke/VarHandle" ∧ (parseMethodDescriptor yX4_addReading.desc).map (fun d => d.parameters.length) = some 4 := by decide +kernel
abbrev kX4_addReading : z_Mt := z_mt yX4_addReading.cls cX4_addReading 6 (some .boolean) qX4_addReading
def JX4_addReading (Q : Int → z_M → Prop) (pc : Nat) (ls st : List z_V) (I : z_M) : Prop := z_R kX4_addReading (z_fin (cqI Q)) pc ls st I
def CX4_addReading (As : List z_V) (I : z_M) (Q : Int → z_M → Prop) : Prop := z_C yX4_addReading cX4_addReading 6 (some .boolean) qX4_addReading As I (cqI Q)
theorem eX4_addReading {b : Nat} {x0 : Int} {x1 : Int} {x2 : Int} {x3 : Int} {I : z_M} {Q : Int → z_M → Prop} (k : JX4_addReading Q 0 [aR b, aI x0, aI x1, aI x2, aI x3, aU] [] I) : CX4_addReading [aR b, aI x0, aI x1, aI x2, aI x3] I Q := z_intro (by decide +kernel) 1 (Nat.le_of_ble_eq_true rfl) k
theorem vX4_addReading {As : List z_V} {I : z_M} {Q : Int → z_M → Prop} (k : z_CI I → CX4_addReading As I Q) : CX4_addReading As I Q := fun hC hA => k hC hC hA
theorem lX4_addReading {Q : Int → z_M → Prop} {pc : Nat} {ls' ls st : List z_V} {I : z_M} (k : JX4_addReading Q pc ls' st I) (h : ∀ (i : Nat) (v : z_V), ls'[i]? = some v → v ≠ aU → ls[i]? = some v) : JX4_addReading Q pc ls st I := g_weak h k
def qX4_bringHome : Room := { frames := 0, cells := 0, slots := 0, locals := 0 }
theorem pdX4_bringHome : yX4_bringHome.cls ≠ "java/lang/invoke/MethodHandle" ∧ yX4_bringHome.cls ≠ "java/lang/invoke/VarHandle" ∧ (parseMethodDescriptor yX4_bringHome.desc).map (fun d => d.parameters.length) = some 1 := by decide +kernel
abbrev kX4_bringHome : z_Mt := z_mt yX4_bringHome.cls cX4_bringHome 2 none qX4_bringHome
def JX4_bringHome (Q : z_M → Prop) (pc : Nat) (ls st : List z_V) (I : z_M) : Prop := z_R kX4_bringHome (z_fin (cqV Q)) pc ls st I
def CX4_bringHome (As : List z_V) (I : z_M) (Q : z_M → Prop) : Prop := z_C yX4_bringHome cX4_bringHome 2 none qX4_bringHome As I (cqV Q)
theorem eX4_bringHome {b : Nat} {x0 : Int} {I : z_M} {Q : z_M → Prop} (k : JX4_bringHome Q 0 [aR b, aI x0] [] I) : CX4_bringHome [aR b, aI x0] I Q := z_intro (by decide +kernel) 0 (Nat.le_of_ble_eq_true rfl) k
theorem vX4_bringHome {As : List z_V} {I : z_M} {Q : z_M → Prop} (k : z_CI I → CX4_bringHome As I Q) : CX4_bringHome As I Q := fun hC hA => k hC hC hA
theorem lX4_bringHome {Q : z_M → Prop} {pc : Nat} {ls' ls st : List z_V} {I : z_M} (k : JX4_bringHome Q pc ls' st I) (h : ∀ (i : Nat) (v : z_V), ls'[i]? = some v → v ≠ aU → ls[i]? = some v) : JX4_bringHome Q pc ls st I := g_weak h k
def qX4_letHourGoBy : Room := { frames := 3, cells := 0, slots := 0, locals := 66 }
theorem pdX4_letHourGoBy : yX4_letHourGoBy.cls ≠ "java/lang/invoke/MethodHandle" ∧ yX4_letHourGoBy.cls ≠ "java/lang/invoke/VarHandle" ∧ (parseMethodDescriptor yX4_letHourGoBy.desc).map (fun d => d.parameters.length) = some 1 := by decide +kernel
abbrev kX4_letHourGoBy : z_Mt := z_mt yX4_letHourGoBy.cls cX4_letHourGoBy 4 none qX4_letHourGoBy
def JX4_letHourGoBy (Q : z_M → Prop) (pc : Nat) (ls st : List z_V) (I : z_M) : Prop := z_R kX4_letHourGoBy (z_fin (cqV Q)) pc ls st I
def CX4_letHourGoBy (As : List z_V) (I : z_M) (Q : z_M → Prop) : Prop := z_C yX4_letHourGoBy cX4_letHourGoBy 4 none qX4_letHourGoBy As I (cqV Q)
theorem eX4_letHourGoBy {b : Nat} {x0 : Nat} {I : z_M} {Q : z_M → Prop} (k : JX4_letHourGoBy Q 0 [aR b, aR x0, aU, aU] [] I) : CX4_letHourGoBy [aR b, aR x0] I Q := z_intro (by decide +kernel) 2 (Nat.le_of_ble_eq_true rfl) k
theorem vX4_letHourGoBy {As : List z_V} {I : z_M} {Q : z_M → Prop} (k : z_CI I → CX4_letHourGoBy As I Q) : CX4_letHourGoBy As I Q := fun hC hA => k hC hC hA
theorem lX4_letHourGoBy {Q : z_M → Prop} {pc : Nat} {ls' ls st : List z_V} {I : z_M} (k : JX4_letHourGoBy Q pc ls' st I) (h : ∀ (i : Nat) (v : z_V), ls'[i]? = some v → v ≠ aU → ls[i]? = some v) : JX4_letHourGoBy Q pc ls st I := g_weak h k
def qX4_sendOut : Room := { frames := 1, cells := 0, slots := 0, locals := 23 }
theorem pdX4_sendOut : yX4_sendOut.cls ≠ "java/lang/invoke/MethodHandle" ∧ yX4_sendOut.cls ≠ "java/lang/invoke/VarHandle" ∧ (parseMethodDescriptor yX4_sendOut.desc).map (fun d => d.parameters.length) = some 1 := by decide +kernel
abbrev kX4_sendOut : z_Mt := z_mt yX4_sendOut.cls cX4_sendOut 4 none qX4_sendOut
def JX4_sendOut (Q : z_M → Prop) (pc : Nat) (ls st : List z_V) (I : z_M) : Prop := z_R kX4_sendOut (z_fin (cqV Q)) pc ls st I
def CX4_sendOut (As : List z_V) (I : z_M) (Q : z_M → Prop) : Prop := z_C yX4_sendOut cX4_sendOut 4 none qX4_sendOut As I (cqV Q)
theorem eX4_sendOut {b : Nat} {x0 : Int} {I : z_M} {Q : z_M → Prop} (k : JX4_sendOut Q 0 [aR b, aI x0, aU, aU] [] I) : CX4_sendOut [aR b, aI x0] I Q := z_intro (by decide +kernel) 2 (Nat.le_of_ble_eq_true rfl) k
theorem vX4_sendOut {As : List z_V} {I : z_M} {Q : z_M → Prop} (k : z_CI I → CX4_sendOut As I Q) : CX4_sendOut As I Q := fun hC hA => k hC hC hA
theorem lX4_sendOut {Q : z_M → Prop} {pc : Nat} {ls' ls st : List z_V} {I : z_M} (k : JX4_sendOut Q pc ls' st I) (h : ∀ (i : Nat) (v : z_V), ls'[i]? = some v → v ≠ aU → ls[i]? = some v) : JX4_sendOut Q pc ls st I := g_weak h k
def qX4_wouldGo : Room := { frames := 3, cells := 0, slots := 0, locals := 66 }
theorem pdX4_wouldGo : yX4_wouldGo.cls ≠ "java/lang/invoke/MethodHandle" ∧ yX4_wouldGo.cls ≠ "java/lang/invoke/VarHandle" ∧ (parseMethodDescriptor yX4_wouldGo.desc).map (fun d => d.parameters.length) = some 2 := by decide +kernel
abbrev kX4_wouldGo : z_Mt := z_mt yX4_wouldGo.cls cX4_wouldGo 3 (some .boolean) qX4_wouldGo
def JX4_wouldGo (Q : Int → z_M → Prop) (pc : Nat) (ls st : List z_V) (I : z_M) : Prop := z_R kX4_wouldGo (z_fin (cqI Q)) pc ls st I
def CX4_wouldGo (As : List z_V) (I : z_M) (Q : Int → z_M → Prop) : Prop := z_C yX4_wouldGo cX4_wouldGo 3 (some .boolean) qX4_wouldGo As I (cqI Q)
theorem eX4_wouldGo {b : Nat} {x0 : Int} {x1 : Nat} {I : z_M} {Q : Int → z_M → Prop} (k : JX4_wouldGo Q 0 [aR b, aI x0, aR x1] [] I) : CX4_wouldGo [aR b, aI x0, aR x1] I Q := z_intro (by decide +kernel) 0 (Nat.le_of_ble_eq_true rfl) k
theorem vX4_wouldGo {As : List z_V} {I : z_M} {Q : Int → z_M → Prop} (k : z_CI I → CX4_wouldGo As I Q) : CX4_wouldGo As I Q := fun hC hA => k hC hC hA
theorem lX4_wouldGo {Q : Int → z_M → Prop} {pc : Nat} {ls' ls st : List z_V} {I : z_M} (k : JX4_wouldGo Q pc ls' st I) (h : ∀ (i : Nat) (v : z_V), ls'[i]? = some v → v ≠ aU → ls[i]? = some v) : JX4_wouldGo Q pc ls st I := g_weak h k
def qX4_ruleOf : Room := { frames := 0, cells := 0, slots := 0, locals := 0 }
theorem pdX4_ruleOf : yX4_ruleOf.cls ≠ "java/lang/invoke/MethodHandle" ∧ yX4_ruleOf.cls ≠ "java/lang/invoke/VarHandle" ∧ (parseMethodDescriptor yX4_ruleOf.desc).map (fun d => d.parameters.length) = some 2 := by decide +kernel
abbrev kX4_ruleOf : z_Mt := z_mt yX4_ruleOf.cls cX4_ruleOf 4 (some (.object "GonePipes$Plain")) qX4_ruleOf
def JX4_ruleOf (Q : Nat → z_M → Prop) (pc : Nat) (ls st : List z_V) (I : z_M) : Prop := z_R kX4_ruleOf (z_fin (cqR Q)) pc ls st I
def CX4_ruleOf (As : List z_V) (I : z_M) (Q : Nat → z_M → Prop) : Prop := z_C yX4_ruleOf cX4_ruleOf 4 (some (.object "GonePipes$Plain")) qX4_ruleOf As I (cqR Q)
theorem eX4_ruleOf {b : Nat} {x0 : Int} {x1 : Nat} {I : z_M} {Q : Nat → z_M → Prop} (k : JX4_ruleOf Q 0 [aR b, aI x0, aR x1, aU] [] I) : CX4_ruleOf [aR b, aI x0, aR x1] I Q := z_intro (by decide +kernel) 1 (Nat.le_of_ble_eq_true rfl) k
theorem vX4_ruleOf {As : List z_V} {I : z_M} {Q : Nat → z_M → Prop} (k : z_CI I → CX4_ruleOf As I Q) : CX4_ruleOf As I Q := fun hC hA => k hC hC hA
theorem lX4_ruleOf {Q : Nat → z_M → Prop} {pc : Nat} {ls' ls st : List z_V} {I : z_M} (k : JX4_ruleOf Q pc ls' st I) (h : ∀ (i : Nat) (v : z_V), ls'[i]? = some v → v ≠ aU → ls[i]? = some v) : JX4_ruleOf Q pc ls st I := g_weak h k
def qX4_isNight : Room := { frames := 0, cells := 0, slots := 0, locals := 0 }
theorem pdX4_isNight : yX4_isNight.cls ≠ "java/lang/invoke/MethodHandle" ∧ yX4_isNight.cls ≠ "java/lang/invoke/VarHandle" ∧ (parseMethodDescriptor yX4_isNight.desc).map (fun d => d.parameters.length) = some 0 := by decide +kernel
abbrev kX4_isNight : z_Mt := z_mt yX4_isNight.cls cX4_isNight 2 (some .boolean) qX4_isNight
def JX4_isNight (Q : Int → z_M → Prop) (pc : Nat) (ls st : List z_V) (I : z_M) : Prop := z_R kX4_isNight (z_fin (cqI Q)) pc ls st I
def CX4_isNight (As : List z_V) (I : z_M) (Q : Int → z_M → Prop) : Prop := z_C yX4_isNight cX4_isNight 2 (some .boolean) qX4_isNight As I (cqI Q)
theorem eX4_isNight {b : Nat} {I : z_M} {Q : Int → z_M → Prop} (k : JX4_isNight Q 0 [aR b, aU] [] I) : CX4_isNight [aR b] I Q := z_intro (by decide +kernel) 1 (Nat.le_of_ble_eq_true rfl) k
theorem vX4_isNight {As : List z_V} {I : z_M} {Q : Int → z_M → Prop} (k : z_CI I → CX4_isNight As I Q) : CX4_isNight As I Q := fun hC hA => k hC hC hA
theorem lX4_isNight {Q : Int → z_M → Prop} {pc : Nat} {ls' ls st : List z_V} {I : z_M} (k : JX4_isNight Q pc ls' st I) (h : ∀ (i : Nat) (v : z_V), ls'[i]? = some v → v ≠ aU → ls[i]? = some v) : JX4_isNight Q pc ls st I := g_weak h k
def qX4_isWished : Room := { frames := 0, cells := 0, slots := 0, locals := 0 }
theorem pdX4_isWished : yX4_isWished.cls ≠ "java/lang/invoke/MethodHandle" ∧ yX4_isWished.cls ≠ "java/lang/invoke/VarHandle" ∧ (parseMethodDescriptor yX4_isWished.desc).map (fun d => d.parameters.length) = some 1 := by decide +kernel
abbrev kX4_isWished : z_Mt := z_mt yX4_isWished.cls cX4_isWished 3 (some .boolean) qX4_isWished
def JX4_isWished (Q : Int → z_M → Prop) (pc : Nat) (ls st : List z_V) (I : z_M) : Prop := z_R kX4_isWished (z_fin (cqI Q)) pc ls st I
def CX4_isWished (As : List z_V) (I : z_M) (Q : Int → z_M → Prop) : Prop := z_C yX4_isWished cX4_isWished 3 (some .boolean) qX4_isWished As I (cqI Q)
theorem eX4_isWished {b : Nat} {x0 : Int} {I : z_M} {Q : Int → z_M → Prop} (k : JX4_isWished Q 0 [aR b, aI x0, aU] [] I) : CX4_isWished [aR b, aI x0] I Q := z_intro (by decide +kernel) 1 (Nat.le_of_ble_eq_true rfl) k
theorem vX4_isWished {As : List z_V} {I : z_M} {Q : Int → z_M → Prop} (k : z_CI I → CX4_isWished As I Q) : CX4_isWished As I Q := fun hC hA => k hC hC hA
theorem lX4_isWished {Q : Int → z_M → Prop} {pc : Nat} {ls' ls st : List z_V} {I : z_M} (k : JX4_isWished Q pc ls' st I) (h : ∀ (i : Nat) (v : z_V), ls'[i]? = some v → v ≠ aU → ls[i]? = some v) : JX4_isWished Q pc ls st I := g_weak h k
def qX4_toneWishedAt : Room := { frames := 0, cells := 0, slots := 0, locals := 0 }
theorem pdX4_toneWishedAt : yX4_toneWishedAt.cls ≠ "java/lang/invoke/MethodHandle" ∧ yX4_toneWishedAt.cls ≠ "java/lang/invoke/VarHandle" ∧ (parseMethodDescriptor yX4_toneWishedAt.desc).map (fun d => d.parameters.length) = some 1 := by decide +kernel
abbrev kX4_toneWishedAt : z_Mt := z_mt yX4_toneWishedAt.cls cX4_toneWishedAt 2 (some .int) qX4_toneWishedAt
def JX4_toneWishedAt (Q : Int → z_M → Prop) (pc : Nat) (ls st : List z_V) (I : z_M) : Prop := z_R kX4_toneWishedAt (z_fin (cqI Q)) pc ls st I
def CX4_toneWishedAt (As : List z_V) (I : z_M) (Q : Int → z_M → Prop) : Prop := z_C yX4_toneWishedAt cX4_toneWishedAt 2 (some .int) qX4_toneWishedAt As I (cqI Q)
theorem eX4_toneWishedAt {b : Nat} {x0 : Int} {I : z_M} {Q : Int → z_M → Prop} (k : JX4_toneWishedAt Q 0 [aR b, aI x0] [] I) : CX4_toneWishedAt [aR b, aI x0] I Q := z_intro (by decide +kernel) 0 (Nat.le_of_ble_eq_true rfl) k
theorem vX4_toneWishedAt {As : List z_V} {I : z_M} {Q : Int → z_M → Prop} (k : z_CI I → CX4_toneWishedAt As I Q) : CX4_toneWishedAt As I Q := fun hC hA => k hC hC hA
theorem lX4_toneWishedAt {Q : Int → z_M → Prop} {pc : Nat} {ls' ls st : List z_V} {I : z_M} (k : JX4_toneWishedAt Q pc ls' st I) (h : ∀ (i : Nat) (v : z_V), ls'[i]? = some v → v ≠ aU → ls[i]? = some v) : JX4_toneWishedAt Q pc ls st I := g_weak h k
def qX4_wishTone : Room := { frames := 0, cells := 0, slots := 0, locals := 0 }
theorem pdX4_wishTone : yX4_wishTone.cls ≠ "java/lang/invoke/MethodHandle" ∧ yX4_wishTone.cls ≠ "java/lang/invoke/VarHandle" ∧ (parseMethodDescriptor yX4_wishTone.desc).map (fun d => d.parameters.length) = some 2 := by decide +kernel
abbrev kX4_wishTone : z_Mt := z_mt yX4_wishTone.cls cX4_wishTone 3 none qX4_wishTone
def JX4_wishTone (Q : z_M → Prop) (pc : Nat) (ls st : List z_V) (I : z_M) : Prop := z_R kX4_wishTone (z_fin (cqV Q)) pc ls st I
def CX4_wishTone (As : List z_V) (I : z_M) (Q : z_M → Prop) : Prop := z_C yX4_wishTone cX4_wishTone 3 none qX4_wishTone As I (cqV Q)
theorem eX4_wishTone {b : Nat} {x0 : Int} {x1 : Int} {I : z_M} {Q : z_M → Prop} (k : JX4_wishTone Q 0 [aR b, aI x0, aI x1] [] I) : CX4_wishTone [aR b, aI x0, aI x1] I Q := z_intro (by decide +kernel) 0 (Nat.le_of_ble_eq_true rfl) k
theorem vX4_wishTone {As : List z_V} {I : z_M} {Q : z_M → Prop} (k : z_CI I → CX4_wishTone As I Q) : CX4_wishTone As I Q := fun hC hA => k hC hC hA
theorem lX4_wishTone {Q : z_M → Prop} {pc : Nat} {ls' ls st : List z_V} {I : z_M} (k : JX4_wishTone Q pc ls' st I) (h : ∀ (i : Nat) (v : z_V), ls'[i]? = some v → v ≠ aU → ls[i]? = some v) : JX4_wishTone Q pc ls st I := g_weak h k
def qX4_isAnotherAway : Room := { frames := 0, cells := 0, slots := 0, locals := 0 }
theorem pdX4_isAnotherAway : yX4_isAnotherAway.cls ≠ "java/lang/invoke/MethodHandle" ∧ yX4_isAnotherAway.cls ≠ "java/lang/invoke/VarHandle" ∧ (parseMethodDescriptor yX4_isAnotherAway.desc).map (fun d => d.parameters.length) = some 1 := by decide +kernel
abbrev kX4_isAnotherAway : z_Mt := z_mt yX4_isAnotherAway.cls cX4_isAnotherAway 3 (some .boolean) qX4_isAnotherAway
def JX4_isAnotherAway (Q : Int → z_M → Prop) (pc : Nat) (ls st : List z_V) (I : z_M) : Prop := z_R kX4_isAnotherAway (z_fin (cqI Q)) pc ls st I
def CX4_isAnotherAway (As : List z_V) (I : z_M) (Q : Int → z_M → Prop) : Prop := z_C yX4_isAnotherAway cX4_isAnotherAway 3 (some .boolean) qX4_isAnotherAway As I (cqI Q)
theorem eX4_isAnotherAway {b : Nat} {x0 : Int} {I : z_M} {Q : Int → z_M → Prop} (k : JX4_isAnotherAway Q 0 [aR b, aI x0, aU] [] I) : CX4_isAnotherAway [aR b, aI x0] I Q := z_intro (by decide +kernel) 1 (Nat.le_of_ble_eq_true rfl) k
theorem vX4_isAnotherAway {As : List z_V} {I : z_M} {Q : Int → z_M → Prop} (k : z_CI I → CX4_isAnotherAway As I Q) : CX4_isAnotherAway As I Q := fun hC hA => k hC hC hA
theorem lX4_isAnotherAway {Q : Int → z_M → Prop} {pc : Nat} {ls' ls st : List z_V} {I : z_M} (k : JX4_isAnotherAway Q pc ls' st I) (h : ∀ (i : Nat) (v : z_V), ls'[i]? = some v → v ≠ aU → ls[i]? = some v) : JX4_isAnotherAway Q pc ls st I := g_weak h k
def qX4_howManyAway : Room := { frames := 0, cells := 0, slots := 0, locals := 0 }
theorem pdX4_howManyAway : yX4_howManyAway.cls ≠ "java/lang/invoke/MethodHandle" ∧ yX4_howManyAway.cls ≠ "java/lang/invoke/VarHandle" ∧ (parseMethodDescriptor yX4_howManyAway.desc).map (fun d => d.parameters.length) = some 0 := by decide +kernel
abbrev kX4_howManyAway : z_Mt := z_mt yX4_howManyAway.cls cX4_howManyAway 3 (some .int) qX4_howManyAway
def JX4_howManyAway (Q : Int → z_M → Prop) (pc : Nat) (ls st : List z_V) (I : z_M) : Prop := z_R kX4_howManyAway (z_fin (cqI Q)) pc ls st I
def CX4_howManyAway (As : List z_V) (I : z_M) (Q : Int → z_M → Prop) : Prop := z_C yX4_howManyAway cX4_howManyAway 3 (some .int) qX4_howManyAway As I (cqI Q)
theorem eX4_howManyAway {b : Nat} {I : z_M} {Q : Int → z_M → Prop} (k : JX4_howManyAway Q 0 [aR b, aU, aU] [] I) : CX4_howManyAway [aR b] I Q := z_intro (by decide +kernel) 2 (Nat.le_of_ble_eq_true rfl) k
theorem vX4_howManyAway {As : List z_V} {I : z_M} {Q : Int → z_M → Prop} (k : z_CI I → CX4_howManyAway As I Q) : CX4_howManyAway As I Q := fun hC hA => k hC hC hA
theorem lX4_howManyAway {Q : Int → z_M → Prop} {pc : Nat} {ls' ls st : List z_V} {I : z_M} (k : JX4_howManyAway Q pc ls' st I) (h : ∀ (i : Nat) (v : z_V), ls'[i]? = some v → v ≠ aU → ls[i]? = some v) : JX4_howManyAway Q pc ls st I := g_weak h k
def qX4_howManyAwayOf : Room := { frames := 0, cells := 0, slots := 0, locals := 0 }
theorem pdX4_howManyAwayOf : yX4_howManyAwayOf.cls ≠ "java/lang/invoke/MethodHandle" ∧ yX4_howManyAwayOf.cls ≠ "java/lang/invoke/VarHandle" ∧ (parseMethodDescriptor yX4_howManyAwayOf.desc).map (fun d => d.parameters.length) = some 1 := by decide +kernel
abbrev kX4_howManyAwayOf : z_Mt := z_mt yX4_howManyAwayOf.cls cX4_howManyAwayOf 4 (some .int) qX4_howManyAwayOf
def JX4_howManyAwayOf (Q : Int → z_M → Prop) (pc : Nat) (ls st : List z_V) (I : z_M) : Prop := z_R kX4_howManyAwayOf (z_fin (cqI Q)) pc ls st I
def CX4_howManyAwayOf (As : List z_V) (I : z_M) (Q : Int → z_M → Prop) : Prop := z_C yX4_howManyAwayOf cX4_howManyAwayOf 4 (some .int) qX4_howManyAwayOf As I (cqI Q)
theorem eX4_howManyAwayOf {b : Nat} {x0 : Int} {I : z_M} {Q : Int → z_M → Prop} (k : JX4_howManyAwayOf Q 0 [aR b, aI x0, aU, aU] [] I) : CX4_howManyAwayOf [aR b, aI x0] I Q := z_intro (by decide +kernel) 2 (Nat.le_of_ble_eq_true rfl) k
theorem vX4_howManyAwayOf {As : List z_V} {I : z_M} {Q : Int → z_M → Prop} (k : z_CI I → CX4_howManyAwayOf As I Q) : CX4_howManyAwayOf As I Q := fun hC hA => k hC hC hA
theorem lX4_howManyAwayOf {Q : Int → z_M → Prop} {pc : Nat} {ls' ls st : List z_V} {I : z_M} (k : JX4_howManyAwayOf Q pc ls' st I) (h : ∀ (i : Nat) (v : z_V), ls'[i]? = some v → v ≠ aU → ls[i]? = some v) : JX4_howManyAwayOf Q pc ls st I := g_weak h k
def qX4_pipesAt : Room := { frames := 0, cells := 0, slots := 0, locals := 0 }
theorem pdX4_pipesAt : yX4_pipesAt.cls ≠ "java/lang/invoke/MethodHandle" ∧ yX4_pipesAt.cls ≠ "java/lang/invoke/VarHandle" ∧ (parseMethodDescriptor yX4_pipesAt.desc).map (fun d => d.parameters.length) = some 1 := by decide +kernel
abbrev kX4_pipesAt : z_Mt := z_mt yX4_pipesAt.cls cX4_pipesAt 4 (some .int) qX4_pipesAt
def JX4_pipesAt (Q : Int → z_M → Prop) (pc : Nat) (ls st : List z_V) (I : z_M) : Prop := z_R kX4_pipesAt (z_fin (cqI Q)) pc ls st I
def CX4_pipesAt (As : List z_V) (I : z_M) (Q : Int → z_M → Prop) : Prop := z_C yX4_pipesAt cX4_pipesAt 4 (some .int) qX4_pipesAt As I (cqI Q)
theorem eX4_pipesAt {b : Nat} {x0 : Int} {I : z_M} {Q : Int → z_M → Prop} (k : JX4_pipesAt Q 0 [aR b, aI x0, aU, aU] [] I) : CX4_pipesAt [aR b, aI x0] I Q := z_intro (by decide +kernel) 2 (Nat.le_of_ble_eq_true rfl) k
theorem vX4_pipesAt {As : List z_V} {I : z_M} {Q : Int → z_M → Prop} (k : z_CI I → CX4_pipesAt As I Q) : CX4_pipesAt As I Q := fun hC hA => k hC hC hA
theorem lX4_pipesAt {Q : Int → z_M → Prop} {pc : Nat} {ls' ls st : List z_V} {I : z_M} (k : JX4_pipesAt Q pc ls' st I) (h : ∀ (i : Nat) (v : z_V), ls'[i]? = some v → v ≠ aU → ls[i]? = some v) : JX4_pipesAt Q pc ls st I := g_weak h k
def qX4_placesOf : Room := { frames := 0, cells := 0, slots := 0, locals := 0 }
theorem pdX4_placesOf : yX4_placesOf.cls ≠ "java/lang/invoke/MethodHandle" ∧ yX4_placesOf.cls ≠ "java/lang/invoke/VarHandle" ∧ (parseMethodDescriptor yX4_placesOf.desc).map (fun d => d.parameters.length) = some 1 := by decide +kernel
abbrev kX4_placesOf : z_Mt := z_mt yX4_placesOf.cls cX4_placesOf 4 (some .int) qX4_placesOf
def JX4_placesOf (Q : Int → z_M → Prop) (pc : Nat) (ls st : List z_V) (I : z_M) : Prop := z_R kX4_placesOf (z_fin (cqI Q)) pc ls st I
def CX4_placesOf (As : List z_V) (I : z_M) (Q : Int → z_M → Prop) : Prop := z_C yX4_placesOf cX4_placesOf 4 (some .int) qX4_placesOf As I (cqI Q)
theorem eX4_placesOf {b : Nat} {x0 : Int} {I : z_M} {Q : Int → z_M → Prop} (k : JX4_placesOf Q 0 [aR b, aI x0, aU, aU] [] I) : CX4_placesOf [aR b, aI x0] I Q := z_intro (by decide +kernel) 2 (Nat.le_of_ble_eq_true rfl) k
theorem vX4_placesOf {As : List z_V} {I : z_M} {Q : Int → z_M → Prop} (k : z_CI I → CX4_placesOf As I Q) : CX4_placesOf As I Q := fun hC hA => k hC hC hA
theorem lX4_placesOf {Q : Int → z_M → Prop} {pc : Nat} {ls' ls st : List z_V} {I : z_M} (k : JX4_placesOf Q pc ls' st I) (h : ∀ (i : Nat) (v : z_V), ls'[i]? = some v → v ≠ aU → ls[i]? = some v) : JX4_placesOf Q pc ls st I := g_weak h k
def qX4_howFar : Room := { frames := 1, cells := 0, slots := 0, locals := 21 }
theorem pdX4_howFar : yX4_howFar.cls ≠ "java/lang/invoke/MethodHandle" ∧ yX4_howFar.cls ≠ "java/lang/invoke/VarHandle" ∧ (parseMethodDescriptor yX4_howFar.desc).map (fun d => d.parameters.length) = some 2 := by decide +kernel
abbrev kX4_howFar : z_Mt := z_mt yX4_howFar.cls cX4_howFar 3 (some .int) qX4_howFar
def JX4_howFar (Q : Int → z_M → Prop) (pc : Nat) (ls st : List z_V) (I : z_M) : Prop := z_R kX4_howFar (z_fin (cqI Q)) pc ls st I
def CX4_howFar (As : List z_V) (I : z_M) (Q : Int → z_M → Prop) : Prop := z_C yX4_howFar cX4_howFar 3 (some .int) qX4_howFar As I (cqI Q)
theorem eX4_howFar {b : Nat} {x0 : Int} {x1 : Int} {I : z_M} {Q : Int → z_M → Prop} (k : JX4_howFar Q 0 [aR b, aI x0, aI x1] [] I) : CX4_howFar [aR b, aI x0, aI x1] I Q := z_intro (by decide +kernel) 0 (Nat.le_of_ble_eq_true rfl) k
theorem vX4_howFar {As : List z_V} {I : z_M} {Q : Int → z_M → Prop} (k : z_CI I → CX4_howFar As I Q) : CX4_howFar As I Q := fun hC hA => k hC hC hA
theorem lX4_howFar {Q : Int → z_M → Prop} {pc : Nat} {ls' ls st : List z_V} {I : z_M} (k : JX4_howFar Q pc ls' st I) (h : ∀ (i : Nat) (v : z_V), ls'[i]? = some v → v ≠ aU → ls[i]? = some v) : JX4_howFar Q pc ls st I := g_weak h k
def qX4_eastOf : Room := { frames := 0, cells := 0, slots := 0, locals := 0 }
theorem pdX4_eastOf : yX4_eastOf.cls ≠ "java/lang/invoke/MethodHandle" ∧ yX4_eastOf.cls ≠ "java/lang/invoke/VarHandle" ∧ (parseMethodDescriptor yX4_eastOf.desc).map (fun d => d.parameters.length) = some 1 := by decide +kernel
abbrev kX4_eastOf : z_Mt := z_mt yX4_eastOf.cls cX4_eastOf 2 (some .int) qX4_eastOf
def JX4_eastOf (Q : Int → z_M → Prop) (pc : Nat) (ls st : List z_V) (I : z_M) : Prop := z_R kX4_eastOf (z_fin (cqI Q)) pc ls st I
def CX4_eastOf (As : List z_V) (I : z_M) (Q : Int → z_M → Prop) : Prop := z_C yX4_eastOf cX4_eastOf 2 (some .int) qX4_eastOf As I (cqI Q)
theorem eX4_eastOf {b : Nat} {x0 : Int} {I : z_M} {Q : Int → z_M → Prop} (k : JX4_eastOf Q 0 [aR b, aI x0] [] I) : CX4_eastOf [aR b, aI x0] I Q := z_intro (by decide +kernel) 0 (Nat.le_of_ble_eq_true rfl) k
theorem vX4_eastOf {As : List z_V} {I : z_M} {Q : Int → z_M → Prop} (k : z_CI I → CX4_eastOf As I Q) : CX4_eastOf As I Q := fun hC hA => k hC hC hA
theorem lX4_eastOf {Q : Int → z_M → Prop} {pc : Nat} {ls' ls st : List z_V} {I : z_M} (k : JX4_eastOf Q pc ls' st I) (h : ∀ (i : Nat) (v : z_V), ls'[i]? = some v → v ≠ aU → ls[i]? = some v) : JX4_eastOf Q pc ls st I := g_weak h k
def qX4_northOf : Room := { frames := 0, cells := 0, slots := 0, locals := 0 }
theorem pdX4_northOf : yX4_northOf.cls ≠ "java/lang/invoke/MethodHandle" ∧ yX4_northOf.cls ≠ "java/lang/invoke/VarHandle" ∧ (parseMethodDescriptor yX4_northOf.desc).map (fun d => d.parameters.length) = some 1 := by decide +kernel
abbrev kX4_northOf : z_Mt := z_mt yX4_northOf.cls cX4_northOf 2 (some .int) qX4_northOf
def JX4_northOf (Q : Int → z_M → Prop) (pc : Nat) (ls st : List z_V) (I : z_M) : Prop := z_R kX4_northOf (z_fin (cqI Q)) pc ls st I
def CX4_northOf (As : List z_V) (I : z_M) (Q : Int → z_M → Prop) : Prop := z_C yX4_northOf cX4_northOf 2 (some .int) qX4_northOf As I (cqI Q)
theorem eX4_northOf {b : Nat} {x0 : Int} {I : z_M} {Q : Int → z_M → Prop} (k : JX4_northOf Q 0 [aR b, aI x0] [] I) : CX4_northOf [aR b, aI x0] I Q := z_intro (by decide +kernel) 0 (Nat.le_of_ble_eq_true rfl) k
theorem vX4_northOf {As : List z_V} {I : z_M} {Q : Int → z_M → Prop} (k : z_CI I → CX4_northOf As I Q) : CX4_northOf As I Q := fun hC hA => k hC hC hA
theorem lX4_northOf {Q : Int → z_M → Prop} {pc : Nat} {ls' ls st : List z_V} {I : z_M} (k : JX4_northOf Q pc ls' st I) (h : ∀ (i : Nat) (v : z_V), ls'[i]? = some v → v ≠ aU → ls[i]? = some v) : JX4_northOf Q pc ls st I := g_weak h k
def qX4_notesInChurch : Room := { frames := 0, cells := 0, slots := 0, locals := 0 }
theorem pdX4_notesInChurch : yX4_notesInChurch.cls ≠ "java/lang/invoke/MethodHandle" ∧ yX4_notesInChurch.cls ≠ "java/lang/invoke/VarHandle" ∧ (parseMethodDescriptor yX4_notesInChurch.desc).map (fun d => d.parameters.length) = some 0 := by decide +kernel
abbrev kX4_notesInChurch : z_Mt := z_mt yX4_notesInChurch.cls cX4_notesInChurch 4 (some .long) qX4_notesInChurch
def JX4_notesInChurch (Q : Int → z_M → Prop) (pc : Nat) (ls st : List z_V) (I : z_M) : Prop := z_R kX4_notesInChurch (z_fin (cqL Q)) pc ls st I
def CX4_notesInChurch (As : List z_V) (I : z_M) (Q : Int → z_M → Prop) : Prop := z_C yX4_notesInChurch cX4_notesInChurch 4 (some .long) qX4_notesInChurch As I (cqL Q)
theorem eX4_notesInChurch {b : Nat} {I : z_M} {Q : Int → z_M → Prop} (k : JX4_notesInChurch Q 0 [aR b, aU, aU, aU] [] I) : CX4_notesInChurch [aR b] I Q := z_intro (by decide +kernel) 3 (Nat.le_of_ble_eq_true rfl) k
theorem vX4_notesInChurch {As : List z_V} {I : z_M} {Q : Int → z_M → Prop} (k : z_CI I → CX4_notesInChurch As I Q) : CX4_notesInChurch As I Q := fun hC hA => k hC hC hA
theorem lX4_notesInChurch {Q : Int → z_M → Prop} {pc : Nat} {ls' ls st : List z_V} {I : z_M} (k : JX4_notesInChurch Q pc ls' st I) (h : ∀ (i : Nat) (v : z_V), ls'[i]? = some v → v ≠ aU → ls[i]? = some v) : JX4_notesInChurch Q pc ls st I := g_weak h k
def qX4_hymnNote : Room := { frames := 0, cells := 0, slots := 0, locals := 0 }
theorem pdX4_hymnNote : yX4_hymnNote.cls ≠ "java/lang/invoke/MethodHandle" ∧ yX4_hymnNote.cls ≠ "java/lang/invoke/VarHandle" ∧ (parseMethodDescriptor yX4_hymnNote.desc).map (fun d => d.parameters.length) = some 2 := by decide +kernel
abbrev kX4_hymnNote : z_Mt := z_mt yX4_hymnNote.cls cX4_hymnNote 3 (some .int) qX4_hymnNote
def JX4_hymnNote (Q : Int → z_M → Prop) (pc : Nat) (ls st : List z_V) (I : z_M) : Prop := z_R kX4_hymnNote (z_fin (cqI Q)) pc ls st I
def CX4_hymnNote (As : List z_V) (I : z_M) (Q : Int → z_M → Prop) : Prop := z_C yX4_hymnNote cX4_hymnNote 3 (some .int) qX4_hymnNote As I (cqI Q)
theorem eX4_hymnNote {b : Nat} {x0 : Int} {x1 : Int} {I : z_M} {Q : Int → z_M → Prop} (k : JX4_hymnNote Q 0 [aR b, aI x0, aI x1] [] I) : CX4_hymnNote [aR b, aI x0, aI x1] I Q := z_intro (by decide +kernel) 0 (Nat.le_of_ble_eq_true rfl) k
theorem vX4_hymnNote {As : List z_V} {I : z_M} {Q : Int → z_M → Prop} (k : z_CI I → CX4_hymnNote As I Q) : CX4_hymnNote As I Q := fun hC hA => k hC hC hA
theorem lX4_hymnNote {Q : Int → z_M → Prop} {pc : Nat} {ls' ls st : List z_V} {I : z_M} (k : JX4_hymnNote Q pc ls' st I) (h : ∀ (i : Nat) (v : z_V), ls'[i]? = some v → v ≠ aU → ls[i]? = some v) : JX4_hymnNote Q pc ls st I := g_weak h k
def qX4_isFirstOfItsNote : Room := { frames := 1, cells := 0, slots := 0, locals := 22 }
theorem pdX4_isFirstOfItsNote : yX4_isFirstOfItsNote.cls ≠ "java/lang/invoke/MethodHandle" ∧ yX4_isFirstOfItsNote.cls ≠ "java/lang/invoke/VarHandle" ∧ (parseMethodDescriptor yX4_isFirstOfItsNote.desc).map (fun d => d.parameters.length) = some 2 := by decide +kernel
abbrev kX4_isFirstOfItsNote : z_Mt := z_mt yX4_isFirstOfItsNote.cls cX4_isFirstOfItsNote 4 (some .boolean) qX4_isFirstOfItsNote
def JX4_isFirstOfItsNote (Q : Int → z_M → Prop) (pc : Nat) (ls st : List z_V) (I : z_M) : Prop := z_R kX4_isFirstOfItsNote (z_fin (cqI Q)) pc ls st I
def CX4_isFirstOfItsNote (As : List z_V) (I : z_M) (Q : Int → z_M → Prop) : Prop := z_C yX4_isFirstOfItsNote cX4_isFirstOfItsNote 4 (some .boolean) qX4_isFirstOfItsNote As I (cqI Q)
theorem eX4_isFirstOfItsNote {b : Nat} {x0 : Int} {x1 : Int} {I : z_M} {Q : Int → z_M → Prop} (k : JX4_isFirstOfItsNote Q 0 [aR b, aI x0, aI x1, aU] [] I) : CX4_isFirstOfItsNote [aR b, aI x0, aI x1] I Q := z_intro (by decide +kernel) 1 (Nat.le_of_ble_eq_true rfl) k
theorem vX4_isFirstOfItsNote {As : List z_V} {I : z_M} {Q : Int → z_M → Prop} (k : z_CI I → CX4_isFirstOfItsNote As I Q) : CX4_isFirstOfItsNote As I Q := fun hC hA => k hC hC hA
theorem lX4_isFirstOfItsNote {Q : Int → z_M → Prop} {pc : Nat} {ls' ls st : List z_V} {I : z_M} (k : JX4_isFirstOfItsNote Q pc ls' st I) (h : ∀ (i : Nat) (v : z_V), ls'[i]? = some v → v ≠ aU → ls[i]? = some v) : JX4_isFirstOfItsNote Q pc ls st I := g_weak h k
def qX4_howManyPlayed : Room := { frames := 1, cells := 0, slots := 0, locals := 22 }
theorem pdX4_howManyPlayed : yX4_howManyPlayed.cls ≠ "java/lang/invoke/MethodHandle" ∧ yX4_howManyPlayed.cls ≠ "java/lang/invoke/VarHandle" ∧ (parseMethodDescriptor yX4_howManyPlayed.desc).map (fun d => d.parameters.length) = some 3 := by decide +kernel
abbrev kX4_howManyPlayed : z_Mt := z_mt yX4_howManyPlayed.cls cX4_howManyPlayed 7 (some .int) qX4_howManyPlayed
def JX4_howManyPlayed (Q : Int → z_M → Prop) (pc : Nat) (ls st : List z_V) (I : z_M) : Prop := z_R kX4_howManyPlayed (z_fin (cqI Q)) pc ls st I
def CX4_howManyPlayed (As : List z_V) (I : z_M) (Q : Int → z_M → Prop) : Prop := z_C yX4_howManyPlayed cX4_howManyPlayed 7 (some .int) qX4_howManyPlayed As I (cqI Q)
theorem eX4_howManyPlayed {b : Nat} {x0 : Int} {x1 : Int} {x2 : Int} {I : z_M} {Q : Int → z_M → Prop} (k : JX4_howManyPlayed Q 0 [aR b, aI x0, aI x1, aL x2, aU, aU, aU] [] I) : CX4_howManyPlayed [aR b, aI x0, aI x1, aL x2] I Q := z_intro (by decide +kernel) 2 (Nat.le_of_ble_eq_true rfl) k
theorem vX4_howManyPlayed {As : List z_V} {I : z_M} {Q : Int → z_M → Prop} (k : z_CI I → CX4_howManyPlayed As I Q) : CX4_howManyPlayed As I Q := fun hC hA => k hC hC hA
theorem lX4_howManyPlayed {Q : Int → z_M → Prop} {pc : Nat} {ls' ls st : List z_V} {I : z_M} (k : JX4_howManyPlayed Q pc ls' st I) (h : ∀ (i : Nat) (v : z_V), ls'[i]? = some v → v ≠ aU → ls[i]? = some v) : JX4_howManyPlayed Q pc ls st I := g_weak h k
def qX4_canBeWhole : Room := { frames := 2, cells := 0, slots := 0, locals := 48 }
theorem pdX4_canBeWhole : yX4_canBeWhole.cls ≠ "java/lang/invoke/MethodHandle" ∧ yX4_canBeWhole.cls ≠ "java/lang/invoke/VarHandle" ∧ (parseMethodDescriptor yX4_canBeWhole.desc).map (fun d => d.parameters.length) = some 2 := by decide +kernel
abbrev kX4_canBeWhole : z_Mt := z_mt yX4_canBeWhole.cls cX4_canBeWhole 5 (some .boolean) qX4_canBeWhole
def JX4_canBeWhole (Q : Int → z_M → Prop) (pc : Nat) (ls st : List z_V) (I : z_M) : Prop := z_R kX4_canBeWhole (z_fin (cqI Q)) pc ls st I
def CX4_canBeWhole (As : List z_V) (I : z_M) (Q : Int → z_M → Prop) : Prop := z_C yX4_canBeWhole cX4_canBeWhole 5 (some .boolean) qX4_canBeWhole As I (cqI Q)
theorem eX4_canBeWhole {b : Nat} {x0 : Int} {x1 : Int} {I : z_M} {Q : Int → z_M → Prop} (k : JX4_canBeWhole Q 0 [aR b, aI x0, aL x1, aU, aU] [] I) : CX4_canBeWhole [aR b, aI x0, aL x1] I Q := z_intro (by decide +kernel) 1 (Nat.le_of_ble_eq_true rfl) k
theorem vX4_canBeWhole {As : List z_V} {I : z_M} {Q : Int → z_M → Prop} (k : z_CI I → CX4_canBeWhole As I Q) : CX4_canBeWhole As I Q := fun hC hA => k hC hC hA
theorem lX4_canBeWhole {Q : Int → z_M → Prop} {pc : Nat} {ls' ls st : List z_V} {I : z_M} (k : JX4_canBeWhole Q pc ls' st I) (h : ∀ (i : Nat) (v : z_V), ls'[i]? = some v → v ≠ aU → ls[i]? = some v) : JX4_canBeWhole Q pc ls st I := g_weak h k
def qX4_pipesToFetch : Room := { frames := 1, cells := 0, slots := 0, locals := 22 }
theorem pdX4_pipesToFetch : yX4_pipesToFetch.cls ≠ "java/lang/invoke/MethodHandle" ∧ yX4_pipesToFetch.cls ≠ "java/lang/invoke/VarHandle" ∧ (parseMethodDescriptor yX4_pipesToFetch.desc).map (fun d => d.parameters.length) = some 3 := by decide +kernel
abbrev kX4_pipesToFetch : z_Mt := z_mt yX4_pipesToFetch.cls cX4_pipesToFetch 9 (some .int) qX4_pipesToFetch
def JX4_pipesToFetch (Q : Int → z_M → Prop) (pc : Nat) (ls st : List z_V) (I : z_M) : Prop := z_R kX4_pipesToFetch (z_fin (cqI Q)) pc ls st I
def CX4_pipesToFetch (As : List z_V) (I : z_M) (Q : Int → z_M → Prop) : Prop := z_C yX4_pipesToFetch cX4_pipesToFetch 9 (some .int) qX4_pipesToFetch As I (cqI Q)
theorem eX4_pipesToFetch {b : Nat} {x0 : Int} {x1 : Int} {x2 : Int} {I : z_M} {Q : Int → z_M → Prop} (k : JX4_pipesToFetch Q 0 [aR b, aI x0, aI x1, aL x2, aU, aU, aU, aU, aU] [] I) : CX4_pipesToFetch [aR b, aI x0, aI x1, aL x2] I Q := z_intro (by decide +kernel) 4 (Nat.le_of_ble_eq_true rfl) k
theorem vX4_pipesToFetch {As : List z_V} {I : z_M} {Q : Int → z_M → Prop} (k : z_CI I → CX4_pipesToFetch As I Q) : CX4_pipesToFetch As I Q := fun hC hA => k hC hC hA
theorem lX4_pipesToFetch {Q : Int → z_M → Prop} {pc : Nat} {ls' ls st : List z_V} {I : z_M} (k : JX4_pipesToFetch Q pc ls' st I) (h : ∀ (i : Nat) (v : z_V), ls'[i]? = some v → v ≠ aU → ls[i]? = some v) : JX4_pipesToFetch Q pc ls st I := g_weak h k
def qX4_firstOfNote : Room := { frames := 0, cells := 0, slots := 0, locals := 0 }
theorem pdX4_firstOfNote : yX4_firstOfNote.cls ≠ "java/lang/invoke/MethodHandle" ∧ yX4_firstOfNote.cls ≠ "java/lang/invoke/VarHandle" ∧ (parseMethodDescriptor yX4_firstOfNote.desc).map (fun d => d.parameters.length) = some 1 := by decide +kernel
abbrev kX4_firstOfNote : z_Mt := z_mt yX4_firstOfNote.cls cX4_firstOfNote 3 (some .int) qX4_firstOfNote
def JX4_firstOfNote (Q : Int → z_M → Prop) (pc : Nat) (ls st : List z_V) (I : z_M) : Prop := z_R kX4_firstOfNote (z_fin (cqI Q)) pc ls st I
def CX4_firstOfNote (As : List z_V) (I : z_M) (Q : Int → z_M → Prop) : Prop := z_C yX4_firstOfNote cX4_firstOfNote 3 (some .int) qX4_firstOfNote As I (cqI Q)
theorem eX4_firstOfNote {b : Nat} {x0 : Int} {I : z_M} {Q : Int → z_M → Prop} (k : JX4_firstOfNote Q 0 [aR b, aI x0, aU] [] I) : CX4_firstOfNote [aR b, aI x0] I Q := z_intro (by decide +kernel) 1 (Nat.le_of_ble_eq_true rfl) k
theorem vX4_firstOfNote {As : List z_V} {I : z_M} {Q : Int → z_M → Prop} (k : z_CI I → CX4_firstOfNote As I Q) : CX4_firstOfNote As I Q := fun hC hA => k hC hC hA
theorem lX4_firstOfNote {Q : Int → z_M → Prop} {pc : Nat} {ls' ls st : List z_V} {I : z_M} (k : JX4_firstOfNote Q pc ls' st I) (h : ∀ (i : Nat) (v : z_V), ls'[i]? = some v → v ≠ aU → ls[i]? = some v) : JX4_firstOfNote Q pc ls st I := g_weak h k
def qX4_lastReadingHour : Room := { frames := 1, cells := 0, slots := 0, locals := 15 }
theorem pdX4_lastReadingHour : yX4_lastReadingHour.cls ≠ "java/lang/invoke/MethodHandle" ∧ yX4_lastReadingHour.cls ≠ "java/lang/invoke/VarHandle" ∧ (parseMethodDescriptor yX4_lastReadingHour.desc).map (fun d => d.parameters.length) = some 0 := by decide +kernel
abbrev kX4_lastReadingHour : z_Mt := z_mt yX4_lastReadingHour.cls cX4_lastReadingHour 3 (some .int) qX4_lastReadingHour
def JX4_lastReadingHour (Q : Int → z_M → Prop) (pc : Nat) (ls st : List z_V) (I : z_M) : Prop := z_R kX4_lastReadingHour (z_fin (cqI Q)) pc ls st I
def CX4_lastReadingHour (As : List z_V) (I : z_M) (Q : Int → z_M → Prop) : Prop := z_C yX4_lastReadingHour cX4_lastReadingHour 3 (some .int) qX4_lastReadingHour As I (cqI Q)
theorem eX4_lastReadingHour {b : Nat} {I : z_M} {Q : Int → z_M → Prop} (k : JX4_lastReadingHour Q 0 [aR b, aU, aU] [] I) : CX4_lastReadingHour [aR b] I Q := z_intro (by decide +kernel) 2 (Nat.le_of_ble_eq_true rfl) k
theorem vX4_lastReadingHour {As : List z_V} {I : z_M} {Q : Int → z_M → Prop} (k : z_CI I → CX4_lastReadingHour As I Q) : CX4_lastReadingHour As I Q := fun hC hA => k hC hC hA
theorem lX4_lastReadingHour {Q : Int → z_M → Prop} {pc : Nat} {ls' ls st : List z_V} {I : z_M} (k : JX4_lastReadingHour Q pc ls' st I) (h : ∀ (i : Nat) (v : z_V), ls'[i]? = some v → v ≠ aU → ls[i]? = some v) : JX4_lastReadingHour Q pc ls st I := g_weak h k
def qX4_agreesWith : Room := { frames := 1, cells := 0, slots := 0, locals := 22 }
theorem pdX4_agreesWith : yX4_agreesWith.cls ≠ "java/lang/invoke/MethodHandle" ∧ yX4_agreesWith.cls ≠ "java/lang/invoke/VarHandle" ∧ (parseMethodDescriptor yX4_agreesWith.desc).map (fun d => d.parameters.length) = some 2 := by decide +kernel
abbrev kX4_agreesWith : z_Mt := z_mt yX4_agreesWith.cls cX4_agreesWith 6 (some .boolean) qX4_agreesWith
def JX4_agreesWith (Q : Int → z_M → Prop) (pc : Nat) (ls st : List z_V) (I : z_M) : Prop := z_R kX4_agreesWith (z_fin (cqI Q)) pc ls st I
def CX4_agreesWith (As : List z_V) (I : z_M) (Q : Int → z_M → Prop) : Prop := z_C yX4_agreesWith cX4_agreesWith 6 (some .boolean) qX4_agreesWith As I (cqI Q)
theorem eX4_agreesWith {b : Nat} {x0 : Nat} {x1 : Int} {I : z_M} {Q : Int → z_M → Prop} (k : JX4_agreesWith Q 0 [aR b, aR x0, aI x1, aU, aU, aU] [] I) : CX4_agreesWith [aR b, aR x0, aI x1] I Q := z_intro (by decide +kernel) 3 (Nat.le_of_ble_eq_true rfl) k
theorem vX4_agreesWith {As : List z_V} {I : z_M} {Q : Int → z_M → Prop} (k : z_CI I → CX4_agreesWith As I Q) : CX4_agreesWith As I Q := fun hC hA => k hC hC hA
theorem lX4_agreesWith {Q : Int → z_M → Prop} {pc : Nat} {ls' ls st : List z_V} {I : z_M} (k : JX4_agreesWith Q pc ls' st I) (h : ∀ (i : Nat) (v : z_V), ls'[i]? = some v → v ≠ aU → ls[i]? = some v) : JX4_agreesWith Q pc ls st I := g_weak h k
def qX4_isAt : Room := { frames := 0, cells := 0, slots := 0, locals := 0 }
theorem pdX4_isAt : yX4_isAt.cls ≠ "java/lang/invoke/MethodHandle" ∧ yX4_isAt.cls ≠ "java/lang/invoke/VarHandle" ∧ (parseMethodDescriptor yX4_isAt.desc).map (fun d => d.parameters.length) = some 2 := by decide +kernel
abbrev kX4_isAt : z_Mt := z_mt yX4_isAt.cls cX4_isAt 3 (some .boolean) qX4_isAt
def JX4_isAt (Q : Int → z_M → Prop) (pc : Nat) (ls st : List z_V) (I : z_M) : Prop := z_R kX4_isAt (z_fin (cqI Q)) pc ls st I
def CX4_isAt (As : List z_V) (I : z_M) (Q : Int → z_M → Prop) : Prop := z_C yX4_isAt cX4_isAt 3 (some .boolean) qX4_isAt As I (cqI Q)
theorem eX4_isAt {b : Nat} {x0 : Int} {x1 : Int} {I : z_M} {Q : Int → z_M → Prop} (k : JX4_isAt Q 0 [aR b, aI x0, aI x1] [] I) : CX4_isAt [aR b, aI x0, aI x1] I Q := z_intro (by decide +kernel) 0 (Nat.le_of_ble_eq_true rfl) k
theorem vX4_isAt {As : List z_V} {I : z_M} {Q : Int → z_M → Prop} (k : z_CI I → CX4_isAt As I Q) : CX4_isAt As I Q := fun hC hA => k hC hC hA
theorem lX4_isAt {Q : Int → z_M → Prop} {pc : Nat} {ls' ls st : List z_V} {I : z_M} (k : JX4_isAt Q pc ls' st I) (h : ∀ (i : Nat) (v : z_V), ls'[i]? = some v → v ≠ aU → ls[i]? = some v) : JX4_isAt Q pc ls st I := g_weak h k
def qX4_digestOn : Room := { frames := 1, cells := 0, slots := 0, locals := 25 }
theorem pdX4_digestOn : yX4_digestOn.cls ≠ "java/lang/invoke/MethodHandle" ∧ yX4_digestOn.cls ≠ "java/lang/invoke/VarHandle" ∧ (parseMethodDescriptor yX4_digestOn.desc).map (fun d => d.parameters.length) = some 1 := by decide +kernel
abbrev kX4_digestOn : z_Mt := z_mt yX4_digestOn.cls cX4_digestOn 4 (some .long) qX4_digestOn
def JX4_digestOn (Q : Int → z_M → Prop) (pc : Nat) (ls st : List z_V) (I : z_M) : Prop := z_R kX4_digestOn (z_fin (cqL Q)) pc ls st I
def CX4_digestOn (As : List z_V) (I : z_M) (Q : Int → z_M → Prop) : Prop := z_C yX4_digestOn cX4_digestOn 4 (some .long) qX4_digestOn As I (cqL Q)
theorem eX4_digestOn {b : Nat} {x0 : Int} {I : z_M} {Q : Int → z_M → Prop} (k : JX4_digestOn Q 0 [aR b, aL x0, aU, aU] [] I) : CX4_digestOn [aR b, aL x0] I Q := z_intro (by decide +kernel) 1 (Nat.le_of_ble_eq_true rfl) k
theorem vX4_digestOn {As : List z_V} {I : z_M} {Q : Int → z_M → Prop} (k : z_CI I → CX4_digestOn As I Q) : CX4_digestOn As I Q := fun hC hA => k hC hC hA
theorem lX4_digestOn {Q : Int → z_M → Prop} {pc : Nat} {ls' ls st : List z_V} {I : z_M} (k : JX4_digestOn Q pc ls' st I) (h : ∀ (i : Nat) (v : z_V), ls'[i]? = some v → v ≠ aU → ls[i]? = some v) : JX4_digestOn Q pc ls st I := g_weak h k
def qX4_digestRow : Room := { frames := 0, cells := 0, slots := 0, locals := 0 }
theorem pdX4_digestRow : yX4_digestRow.cls ≠ "java/lang/invoke/MethodHandle" ∧ yX4_digestRow.cls ≠ "java/lang/invoke/VarHandle" ∧ (parseMethodDescriptor yX4_digestRow.desc).map (fun d => d.parameters.length) = some 4 := by decide +kernel
abbrev kX4_digestRow : z_Mt := z_mt yX4_digestRow.cls cX4_digestRow 6 (some .long) qX4_digestRow
def JX4_digestRow (Q : Int → z_M → Prop) (pc : Nat) (ls st : List z_V) (I : z_M) : Prop := z_R kX4_digestRow (z_fin (cqL Q)) pc ls st I
def CX4_digestRow (As : List z_V) (I : z_M) (Q : Int → z_M → Prop) : Prop := z_C yX4_digestRow cX4_digestRow 6 (some .long) qX4_digestRow As I (cqL Q)
theorem eX4_digestRow {x0 : Int} {x1 : Nat} {x2 : Int} {x3 : Int} {I : z_M} {Q : Int → z_M → Prop} (k : JX4_digestRow Q 0 [aL x0, aU, aR x1, aI x2, aI x3, aU] [] I) : CX4_digestRow [aL x0, aR x1, aI x2, aI x3] I Q := z_intro (by decide +kernel) 1 (Nat.le_of_ble_eq_true rfl) k
theorem vX4_digestRow {As : List z_V} {I : z_M} {Q : Int → z_M → Prop} (k : z_CI I → CX4_digestRow As I Q) : CX4_digestRow As I Q := fun hC hA => k hC hC hA
theorem lX4_digestRow {Q : Int → z_M → Prop} {pc : Nat} {ls' ls st : List z_V} {I : z_M} (k : JX4_digestRow Q pc ls' st I) (h : ∀ (i : Nat) (v : z_V), ls'[i]? = some v → v ≠ aU → ls[i]? = some v) : JX4_digestRow Q pc ls st I := g_weak h k
def qX5_reset : Room := { frames := 0, cells := 0, slots := 0, locals := 0 }
theorem pdX5_reset : yX5_reset.cls ≠ "java/lang/invoke/MethodHandle" ∧ yX5_reset.cls ≠ "java/lang/invoke/VarHandle" ∧ (parseMethodDescriptor yX5_reset.desc).map (fun d => d.parameters.length) = some 0 := by decide +kernel
abbrev kX5_reset : z_Mt := z_mt yX5_reset.cls cX5_reset 1 none qX5_reset
def JX5_reset (Q : z_M → Prop) (pc : Nat) (ls st : List z_V) (I : z_M) : Prop := z_R kX5_reset (z_fin (cqV Q)) pc ls st I
def CX5_reset (As : List z_V) (I : z_M) (Q : z_M → Prop) : Prop := z_C yX5_reset cX5_reset 1 none qX5_reset As I (cqV Q)
theorem eX5_reset {b : Nat} {I : z_M} {Q : z_M → Prop} (k : JX5_reset Q 0 [aR b] [] I) : CX5_reset [aR b] I Q := z_intro (by decide +kernel) 0 (Nat.le_of_ble_eq_true rfl) k
theorem vX5_reset {As : List z_V} {I : z_M} {Q : z_M → Prop} (k : z_CI I → CX5_reset As I Q) : CX5_reset As I Q := fun hC hA => k hC hC hA
theorem lX5_reset {Q : z_M → Prop} {pc : Nat} {ls' ls st : List z_V} {I : z_M} (k : JX5_reset Q pc ls' st I) (h : ∀ (i : Nat) (v : z_V), ls'[i]? = some v → v ≠ aU → ls[i]? = some v) : JX5_reset Q pc ls st I := g_weak h k
def qX5_takeOver : Room := { frames := 1, cells := 0, slots := 0, locals := 18 }
theorem pdX5_takeOver : yX5_takeOver.cls ≠ "java/lang/invoke/MethodHandle" ∧ yX5_takeOver.cls ≠ "java/lang/invoke/VarHandle" ∧ (parseMethodDescriptor yX5_takeOver.desc).map (fun d => d.parameters.length) = some 1 := by decide +kernel
abbrev kX5_takeOver : z_Mt := z_mt yX5_takeOver.cls cX5_takeOver 2 none qX5_takeOver
def JX5_takeOver (Q : z_M → Prop) (pc : Nat) (ls st : List z_V) (I : z_M) : Prop := z_R kX5_takeOver (z_fin (cqV Q)) pc ls st I
def CX5_takeOver (As : List z_V) (I : z_M) (Q : z_M → Prop) : Prop := z_C yX5_takeOver cX5_takeOver 2 none qX5_takeOver As I (cqV Q)
theorem eX5_takeOver {b : Nat} {x0 : Nat} {I : z_M} {Q : z_M → Prop} (k : JX5_takeOver Q 0 [aR b, aR x0] [] I) : CX5_takeOver [aR b, aR x0] I Q := z_intro (by decide +kernel) 0 (Nat.le_of_ble_eq_true rfl) k
theorem vX5_takeOver {As : List z_V} {I : z_M} {Q : z_M → Prop} (k : z_CI I → CX5_takeOver As I Q) : CX5_takeOver As I Q := fun hC hA => k hC hC hA
theorem lX5_takeOver {Q : z_M → Prop} {pc : Nat} {ls' ls st : List z_V} {I : z_M} (k : JX5_takeOver Q pc ls' st I) (h : ∀ (i : Nat) (v : z_V), ls'[i]? = some v → v ≠ aU → ls[i]? = some v) : JX5_takeOver Q pc ls st I := g_weak h k
def qX5_keep : Room := { frames := 1, cells := 0, slots := 0, locals := 18 }
theorem pdX5_keep : yX5_keep.cls ≠ "java/lang/invoke/MethodHandle" ∧ yX5_keep.cls ≠ "java/lang/invoke/VarHandle" ∧ (parseMethodDescriptor yX5_keep.desc).map (fun d => d.parameters.length) = some 1 := by decide +kernel
abbrev kX5_keep : z_Mt := z_mt yX5_keep.cls cX5_keep 3 none qX5_keep
def JX5_keep (Q : z_M → Prop) (pc : Nat) (ls st : List z_V) (I : z_M) : Prop := z_R kX5_keep (z_fin (cqV Q)) pc ls st I
def CX5_keep (As : List z_V) (I : z_M) (Q : z_M → Prop) : Prop := z_C yX5_keep cX5_keep 3 none qX5_keep As I (cqV Q)
theorem eX5_keep {b : Nat} {x0 : Nat} {I : z_M} {Q : z_M → Prop} (k : JX5_keep Q 0 [aR b, aR x0, aU] [] I) : CX5_keep [aR b, aR x0] I Q := z_intro (by decide +kernel) 1 (Nat.le_of_ble_eq_true rfl) k
theorem vX5_keep {As : List z_V} {I : z_M} {Q : z_M → Prop} (k : z_CI I → CX5_keep As I Q) : CX5_keep As I Q := fun hC hA => k hC hC hA
theorem lX5_keep {Q : z_M → Prop} {pc : Nat} {ls' ls st : List z_V} {I : z_M} (k : JX5_keep Q pc ls' st I) (h : ∀ (i : Nat) (v : z_V), ls'[i]? = some v → v ≠ aU → ls[i]? = some v) : JX5_keep Q pc ls st I := g_weak h k
def qX5_giveBack : Room := { frames := 1, cells := 0, slots := 0, locals := 18 }
theorem pdX5_giveBack : yX5_giveBack.cls ≠ "java/lang/invoke/MethodHandle" ∧ yX5_giveBack.cls ≠ "java/lang/invoke/VarHandle" ∧ (parseMethodDescriptor yX5_giveBack.desc).map (fun d => d.parameters.length) = some 1 := by decide +kernel
abbrev kX5_giveBack : z_Mt := z_mt yX5_giveBack.cls cX5_giveBack 3 (some .boolean) qX5_giveBack
def JX5_giveBack (Q : Int → z_M → Prop) (pc : Nat) (ls st : List z_V) (I : z_M) : Prop := z_R kX5_giveBack (z_fin (cqI Q)) pc ls st I
def CX5_giveBack (As : List z_V) (I : z_M) (Q : Int → z_M → Prop) : Prop := z_C yX5_giveBack cX5_giveBack 3 (some .boolean) qX5_giveBack As I (cqI Q)
theorem eX5_giveBack {b : Nat} {x0 : Nat} {I : z_M} {Q : Int → z_M → Prop} (k : JX5_giveBack Q 0 [aR b, aR x0, aU] [] I) : CX5_giveBack [aR b, aR x0] I Q := z_intro (by decide +kernel) 1 (Nat.le_of_ble_eq_true rfl) k
theorem vX5_giveBack {As : List z_V} {I : z_M} {Q : Int → z_M → Prop} (k : z_CI I → CX5_giveBack As I Q) : CX5_giveBack As I Q := fun hC hA => k hC hC hA
theorem lX5_giveBack {Q : Int → z_M → Prop} {pc : Nat} {ls' ls st : List z_V} {I : z_M} (k : JX5_giveBack Q pc ls' st I) (h : ∀ (i : Nat) (v : z_V), ls'[i]? = some v → v ≠ aU → ls[i]? = some v) : JX5_giveBack Q pc ls st I := g_weak h k
def qX6_mayGo : Room := { frames := 0, cells := 0, slots := 0, locals := 0 }
theorem pdX6_mayGo : yX6_mayGo.cls ≠ "java/lang/invoke/MethodHandle" ∧ yX6_mayGo.cls ≠ "java/lang/invoke/VarHandle" ∧ (parseMethodDescriptor yX6_mayGo.desc).map (fun d => d.parameters.length) = some 2 := by decide +kernel
abbrev kX6_mayGo : z_Mt := z_mt yX6_mayGo.cls cX6_mayGo 3 (some .boolean) qX6_mayGo
def JX6_mayGo (Q : Int → z_M → Prop) (pc : Nat) (ls st : List z_V) (I : z_M) : Prop := z_R kX6_mayGo (z_fin (cqI Q)) pc ls st I
def CX6_mayGo (As : List z_V) (I : z_M) (Q : Int → z_M → Prop) : Prop := z_C yX6_mayGo cX6_mayGo 3 (some .boolean) qX6_mayGo As I (cqI Q)
theorem eX6_mayGo {b : Nat} {x0 : Nat} {x1 : Int} {I : z_M} {Q : Int → z_M → Prop} (k : JX6_mayGo Q 0 [aR b, aR x0, aI x1] [] I) : CX6_mayGo [aR b, aR x0, aI x1] I Q := z_intro (by decide +kernel) 0 (Nat.le_of_ble_eq_true rfl) k
theorem vX6_mayGo {As : List z_V} {I : z_M} {Q : Int → z_M → Prop} (k : z_CI I → CX6_mayGo As I Q) : CX6_mayGo As I Q := fun hC hA => k hC hC hA
theorem lX6_mayGo {Q : Int → z_M → Prop} {pc : Nat} {ls' ls st : List z_V} {I : z_M} (k : JX6_mayGo Q pc ls' st I) (h : ∀ (i : Nat) (v : z_V), ls'[i]? = some v → v ≠ aU → ls[i]? = some v) : JX6_mayGo Q pc ls st I := g_weak h k
def qX6_comesBack : Room := { frames := 1, cells := 0, slots := 0, locals := 22 }
theorem pdX6_comesBack : yX6_comesBack.cls ≠ "java/lang/invoke/MethodHandle" ∧ yX6_comesBack.cls ≠ "java/lang/invoke/VarHandle" ∧ (parseMethodDescriptor yX6_comesBack.desc).map (fun d => d.parameters.length) = some 2 := by decide +kernel
abbrev kX6_comesBack : z_Mt := z_mt yX6_comesBack.cls cX6_comesBack 3 (some .boolean) qX6_comesBack
def JX6_comesBack (Q : Int → z_M → Prop) (pc : Nat) (ls st : List z_V) (I : z_M) : Prop := z_R kX6_comesBack (z_fin (cqI Q)) pc ls st I
def CX6_comesBack (As : List z_V) (I : z_M) (Q : Int → z_M → Prop) : Prop := z_C yX6_comesBack cX6_comesBack 3 (some .boolean) qX6_comesBack As I (cqI Q)
theorem eX6_comesBack {b : Nat} {x0 : Nat} {x1 : Int} {I : z_M} {Q : Int → z_M → Prop} (k : JX6_comesBack Q 0 [aR b, aR x0, aI x1] [] I) : CX6_comesBack [aR b, aR x0, aI x1] I Q := z_intro (by decide +kernel) 0 (Nat.le_of_ble_eq_true rfl) k
theorem vX6_comesBack {As : List z_V} {I : z_M} {Q : Int → z_M → Prop} (k : z_CI I → CX6_comesBack As I Q) : CX6_comesBack As I Q := fun hC hA => k hC hC hA
theorem lX6_comesBack {Q : Int → z_M → Prop} {pc : Nat} {ls' ls st : List z_V} {I : z_M} (k : JX6_comesBack Q pc ls' st I) (h : ∀ (i : Nat) (v : z_V), ls'[i]? = some v → v ≠ aU → ls[i]? = some v) : JX6_comesBack Q pc ls st I := g_weak h k
def qX7_comesBack : Room := { frames := 2, cells := 0, slots := 0, locals := 44 }
theorem pdX7_comesBack : yX7_comesBack.cls ≠ "java/lang/invoke/MethodHandle" ∧ yX7_comesBack.cls ≠ "java/lang/invoke/VarHandle" ∧ (parseMethodDescriptor yX7_comesBack.desc).map (fun d => d.parameters.length) = some 2 := by decide +kernel
abbrev kX7_comesBack : z_Mt := z_mt yX7_comesBack.cls cX7_comesBack 3 (some .boolean) qX7_comesBack
def JX7_comesBack (Q : Int → z_M → Prop) (pc : Nat) (ls st : List z_V) (I : z_M) : Prop := z_R kX7_comesBack (z_fin (cqI Q)) pc ls st I
def CX7_comesBack (As : List z_V) (I : z_M) (Q : Int → z_M → Prop) : Prop := z_C yX7_comesBack cX7_comesBack 3 (some .boolean) qX7_comesBack As I (cqI Q)
theorem eX7_comesBack {b : Nat} {x0 : Nat} {x1 : Int} {I : z_M} {Q : Int → z_M → Prop} (k : JX7_comesBack Q 0 [aR b, aR x0, aI x1] [] I) : CX7_comesBack [aR b, aR x0, aI x1] I Q := z_intro (by decide +kernel) 0 (Nat.le_of_ble_eq_true rfl) k
theorem vX7_comesBack {As : List z_V} {I : z_M} {Q : Int → z_M → Prop} (k : z_CI I → CX7_comesBack As I Q) : CX7_comesBack As I Q := fun hC hA => k hC hC hA
theorem lX7_comesBack {Q : Int → z_M → Prop} {pc : Nat} {ls' ls st : List z_V} {I : z_M} (k : JX7_comesBack Q pc ls' st I) (h : ∀ (i : Nat) (v : z_V), ls'[i]? = some v → v ≠ aU → ls[i]? = some v) : JX7_comesBack Q pc ls st I := g_weak h k
def qX8_add : Room := { frames := 0, cells := 0, slots := 0, locals := 0 }
theorem pdX8_add : yX8_add.cls ≠ "java/lang/invoke/MethodHandle" ∧ yX8_add.cls ≠ "java/lang/invoke/VarHandle" ∧ (parseMethodDescriptor yX8_add.desc).map (fun d => d.parameters.length) = some 1 := by decide +kernel
abbrev kX8_add : z_Mt := z_mt yX8_add.cls cX8_add 2 (some .boolean) qX8_add
def JX8_add (Q : Int → z_M → Prop) (pc : Nat) (ls st : List z_V) (I : z_M) : Prop := z_R kX8_add (z_fin (cqI Q)) pc ls st I
def CX8_add (As : List z_V) (I : z_M) (Q : Int → z_M → Prop) : Prop := z_C yX8_add cX8_add 2 (some .boolean) qX8_add As I (cqI Q)
theorem eX8_add {b : Nat} {x0 : Int} {I : z_M} {Q : Int → z_M → Prop} (k : JX8_add Q 0 [aR b, aI x0] [] I) : CX8_add [aR b, aI x0] I Q := z_intro (by decide +kernel) 0 (Nat.le_of_ble_eq_true rfl) k
theorem vX8_add {As : List z_V} {I : z_M} {Q : Int → z_M → Prop} (k : z_CI I → CX8_add As I Q) : CX8_add As I Q := fun hC hA => k hC hC hA
theorem lX8_add {Q : Int → z_M → Prop} {pc : Nat} {ls' ls st : List z_V} {I : z_M} (k : JX8_add Q pc ls' st I) (h : ∀ (i : Nat) (v : z_V), ls'[i]? = some v → v ≠ aU → ls[i]? = some v) : JX8_add Q pc ls st I := g_weak h k
def qX8_readInto : Room := { frames := 6, cells := 0, slots := 0, locals := 128 }
theorem pdX8_readInto : yX8_readInto.cls ≠ "java/lang/invoke/MethodHandle" ∧ yX8_readInto.cls ≠ "java/lang/invoke/VarHandle" ∧ (parseMethodDescriptor yX8_readInto.desc).map (fun d => d.parameters.length) = some 1 := by decide +kernel
abbrev kX8_readInto : z_Mt := z_mt yX8_readInto.cls cX8_readInto 3 (some .int) qX8_readInto
def JX8_readInto (Q : Int → z_M → Prop) (pc : Nat) (ls st : List z_V) (I : z_M) : Prop := z_R kX8_readInto (z_fin (cqI Q)) pc ls st I
def CX8_readInto (As : List z_V) (I : z_M) (Q : Int → z_M → Prop) : Prop := z_C yX8_readInto cX8_readInto 3 (some .int) qX8_readInto As I (cqI Q)
theorem eX8_readInto {b : Nat} {x0 : Nat} {I : z_M} {Q : Int → z_M → Prop} (k : JX8_readInto Q 0 [aR b, aR x0, aU] [] I) : CX8_readInto [aR b, aR x0] I Q := z_intro (by decide +kernel) 1 (Nat.le_of_ble_eq_true rfl) k
theorem vX8_readInto {As : List z_V} {I : z_M} {Q : Int → z_M → Prop} (k : z_CI I → CX8_readInto As I Q) : CX8_readInto As I Q := fun hC hA => k hC hC hA
theorem lX8_readInto {Q : Int → z_M → Prop} {pc : Nat} {ls' ls st : List z_V} {I : z_M} (k : JX8_readInto Q pc ls' st I) (h : ∀ (i : Nat) (v : z_V), ls'[i]? = some v → v ≠ aU → ls[i]? = some v) : JX8_readInto Q pc ls st I := g_weak h k
def qX8_readItem : Room := { frames := 5, cells := 0, slots := 0, locals := 107 }
theorem pdX8_readItem : yX8_readItem.cls ≠ "java/lang/invoke/MethodHandle" ∧ yX8_readItem.cls ≠ "java/lang/invoke/VarHandle" ∧ (parseMethodDescriptor yX8_readItem.desc).map (fun d => d.parameters.length) = some 1 := by decide +kernel
abbrev kX8_readItem : z_Mt := z_mt yX8_readItem.cls cX8_readItem 2 (some .boolean) qX8_readItem
def JX8_readItem (Q : Int → z_M → Prop) (pc : Nat) (ls st : List z_V) (I : z_M) : Prop := z_R kX8_readItem (z_fin (cqI Q)) pc ls st I
def CX8_readItem (As : List z_V) (I : z_M) (Q : Int → z_M → Prop) : Prop := z_C yX8_readItem cX8_readItem 2 (some .boolean) qX8_readItem As I (cqI Q)
theorem eX8_readItem {b : Nat} {x0 : Nat} {I : z_M} {Q : Int → z_M → Prop} (k : JX8_readItem Q 0 [aR b, aR x0] [] I) : CX8_readItem [aR b, aR x0] I Q := z_intro (by decide +kernel) 0 (Nat.le_of_ble_eq_true rfl) k
theorem vX8_readItem {As : List z_V} {I : z_M} {Q : Int → z_M → Prop} (k : z_CI I → CX8_readItem As I Q) : CX8_readItem As I Q := fun hC hA => k hC hC hA
theorem lX8_readItem {Q : Int → z_M → Prop} {pc : Nat} {ls' ls st : List z_V} {I : z_M} (k : JX8_readItem Q pc ls' st I) (h : ∀ (i : Nat) (v : z_V), ls'[i]? = some v → v ≠ aU → ls[i]? = some v) : JX8_readItem Q pc ls st I := g_weak h k
def qX8_readPlace : Room := { frames := 3, cells := 0, slots := 0, locals := 62 }
theorem pdX8_readPlace : yX8_readPlace.cls ≠ "java/lang/invoke/MethodHandle" ∧ yX8_readPlace.cls ≠ "java/lang/invoke/VarHandle" ∧ (parseMethodDescriptor yX8_readPlace.desc).map (fun d => d.parameters.length) = some 1 := by decide +kernel
abbrev kX8_readPlace : z_Mt := z_mt yX8_readPlace.cls cX8_readPlace 2 (some .boolean) qX8_readPlace
def JX8_readPlace (Q : Int → z_M → Prop) (pc : Nat) (ls st : List z_V) (I : z_M) : Prop := z_R kX8_readPlace (z_fin (cqI Q)) pc ls st I
def CX8_readPlace (As : List z_V) (I : z_M) (Q : Int → z_M → Prop) : Prop := z_C yX8_readPlace cX8_readPlace 2 (some .boolean) qX8_readPlace As I (cqI Q)
theorem eX8_readPlace {b : Nat} {x0 : Nat} {I : z_M} {Q : Int → z_M → Prop} (k : JX8_readPlace Q 0 [aR b, aR x0] [] I) : CX8_readPlace [aR b, aR x0] I Q := z_intro (by decide +kernel) 0 (Nat.le_of_ble_eq_true rfl) k
theorem vX8_readPlace {As : List z_V} {I : z_M} {Q : Int → z_M → Prop} (k : z_CI I → CX8_readPlace As I Q) : CX8_readPlace As I Q := fun hC hA => k hC hC hA
theorem lX8_readPlace {Q : Int → z_M → Prop} {pc : Nat} {ls' ls st : List z_V} {I : z_M} (k : JX8_readPlace Q pc ls' st I) (h : ∀ (i : Nat) (v : z_V), ls'[i]? = some v → v ≠ aU → ls[i]? = some v) : JX8_readPlace Q pc ls st I := g_weak h k
def qX8_readPipe : Room := { frames := 3, cells := 0, slots := 0, locals := 62 }
theorem pdX8_readPipe : yX8_readPipe.cls ≠ "java/lang/invoke/MethodHandle" ∧ yX8_readPipe.cls ≠ "java/lang/invoke/VarHandle" ∧ (parseMethodDescriptor yX8_readPipe.desc).map (fun d => d.parameters.length) = some 1 := by decide +kernel
abbrev kX8_readPipe : z_Mt := z_mt yX8_readPipe.cls cX8_readPipe 2 (some .boolean) qX8_readPipe
def JX8_readPipe (Q : Int → z_M → Prop) (pc : Nat) (ls st : List z_V) (I : z_M) : Prop := z_R kX8_readPipe (z_fin (cqI Q)) pc ls st I
def CX8_readPipe (As : List z_V) (I : z_M) (Q : Int → z_M → Prop) : Prop := z_C yX8_readPipe cX8_readPipe 2 (some .boolean) qX8_readPipe As I (cqI Q)
theorem eX8_readPipe {b : Nat} {x0 : Nat} {I : z_M} {Q : Int → z_M → Prop} (k : JX8_readPipe Q 0 [aR b, aR x0] [] I) : CX8_readPipe [aR b, aR x0] I Q := z_intro (by decide +kernel) 0 (Nat.le_of_ble_eq_true rfl) k
theorem vX8_readPipe {As : List z_V} {I : z_M} {Q : Int → z_M → Prop} (k : z_CI I → CX8_readPipe As I Q) : CX8_readPipe As I Q := fun hC hA => k hC hC hA
theorem lX8_readPipe {Q : Int → z_M → Prop} {pc : Nat} {ls' ls st : List z_V} {I : z_M} (k : JX8_readPipe Q pc ls' st I) (h : ∀ (i : Nat) (v : z_V), ls'[i]? = some v → v ≠ aU → ls[i]? = some v) : JX8_readPipe Q pc ls st I := g_weak h k
def qX8_readHymn : Room := { frames := 3, cells := 0, slots := 0, locals := 62 }
theorem pdX8_readHymn : yX8_readHymn.cls ≠ "java/lang/invoke/MethodHandle" ∧ yX8_readHymn.cls ≠ "java/lang/invoke/VarHandle" ∧ (parseMethodDescriptor yX8_readHymn.desc).map (fun d => d.parameters.length) = some 1 := by decide +kernel
abbrev kX8_readHymn : z_Mt := z_mt yX8_readHymn.cls cX8_readHymn 3 (some .boolean) qX8_readHymn
def JX8_readHymn (Q : Int → z_M → Prop) (pc : Nat) (ls st : List z_V) (I : z_M) : Prop := z_R kX8_readHymn (z_fin (cqI Q)) pc ls st I
def CX8_readHymn (As : List z_V) (I : z_M) (Q : Int → z_M → Prop) : Prop := z_C yX8_readHymn cX8_readHymn 3 (some .boolean) qX8_readHymn As I (cqI Q)
theorem eX8_readHymn {b : Nat} {x0 : Nat} {I : z_M} {Q : Int → z_M → Prop} (k : JX8_readHymn Q 0 [aR b, aR x0, aU] [] I) : CX8_readHymn [aR b, aR x0] I Q := z_intro (by decide +kernel) 1 (Nat.le_of_ble_eq_true rfl) k
theorem vX8_readHymn {As : List z_V} {I : z_M} {Q : Int → z_M → Prop} (k : z_CI I → CX8_readHymn As I Q) : CX8_readHymn As I Q := fun hC hA => k hC hC hA
theorem lX8_readHymn {Q : Int → z_M → Prop} {pc : Nat} {ls' ls st : List z_V} {I : z_M} (k : JX8_readHymn Q pc ls' st I) (h : ∀ (i : Nat) (v : z_V), ls'[i]? = some v → v ≠ aU → ls[i]? = some v) : JX8_readHymn Q pc ls st I := g_weak h k
def qX8_readNumber : Room := { frames := 2, cells := 0, slots := 0, locals := 40 }
theorem pdX8_readNumber : yX8_readNumber.cls ≠ "java/lang/invoke/MethodHandle" ∧ yX8_readNumber.cls ≠ "java/lang/invoke/VarHandle" ∧ (parseMethodDescriptor yX8_readNumber.desc).map (fun d => d.parameters.length) = some 2 := by decide +kernel
abbrev kX8_readNumber : z_Mt := z_mt yX8_readNumber.cls cX8_readNumber 3 (some .boolean) qX8_readNumber
def JX8_readNumber (Q : Int → z_M → Prop) (pc : Nat) (ls st : List z_V) (I : z_M) : Prop := z_R kX8_readNumber (z_fin (cqI Q)) pc ls st I
def CX8_readNumber (As : List z_V) (I : z_M) (Q : Int → z_M → Prop) : Prop := z_C yX8_readNumber cX8_readNumber 3 (some .boolean) qX8_readNumber As I (cqI Q)
theorem eX8_readNumber {b : Nat} {x0 : Int} {x1 : Int} {I : z_M} {Q : Int → z_M → Prop} (k : JX8_readNumber Q 0 [aR b, aI x0, aI x1] [] I) : CX8_readNumber [aR b, aI x0, aI x1] I Q := z_intro (by decide +kernel) 0 (Nat.le_of_ble_eq_true rfl) k
theorem vX8_readNumber {As : List z_V} {I : z_M} {Q : Int → z_M → Prop} (k : z_CI I → CX8_readNumber As I Q) : CX8_readNumber As I Q := fun hC hA => k hC hC hA
theorem lX8_readNumber {Q : Int → z_M → Prop} {pc : Nat} {ls' ls st : List z_V} {I : z_M} (k : JX8_readNumber Q pc ls' st I) (h : ∀ (i : Nat) (v : z_V), ls'[i]? = some v → v ≠ aU → ls[i]? = some v) : JX8_readNumber Q pc ls st I := g_weak h k
def qX8_stepTo : Room := { frames := 2, cells := 0, slots := 0, locals := 40 }
theorem pdX8_stepTo : yX8_stepTo.cls ≠ "java/lang/invoke/MethodHandle" ∧ yX8_stepTo.cls ≠ "java/lang/invoke/VarHandle" ∧ (parseMethodDescriptor yX8_stepTo.desc).map (fun d => d.parameters.length) = some 1 := by decide +kernel
abbrev kX8_stepTo : z_Mt := z_mt yX8_stepTo.cls cX8_stepTo 2 (some .boolean) qX8_stepTo
def JX8_stepTo (Q : Int → z_M → Prop) (pc : Nat) (ls st : List z_V) (I : z_M) : Prop := z_R kX8_stepTo (z_fin (cqI Q)) pc ls st I
def CX8_stepTo (As : List z_V) (I : z_M) (Q : Int → z_M → Prop) : Prop := z_C yX8_stepTo cX8_stepTo 2 (some .boolean) qX8_stepTo As I (cqI Q)
theorem eX8_stepTo {b : Nat} {x0 : Int} {I : z_M} {Q : Int → z_M → Prop} (k : JX8_stepTo Q 0 [aR b, aI x0] [] I) : CX8_stepTo [aR b, aI x0] I Q := z_intro (by decide +kernel) 0 (Nat.le_of_ble_eq_true rfl) k
theorem vX8_stepTo {As : List z_V} {I : z_M} {Q : Int → z_M → Prop} (k : z_CI I → CX8_stepTo As I Q) : CX8_stepTo As I Q := fun hC hA => k hC hC hA
theorem lX8_stepTo {Q : Int → z_M → Prop} {pc : Nat} {ls' ls st : List z_V} {I : z_M} (k : JX8_stepTo Q pc ls' st I) (h : ∀ (i : Nat) (v : z_V), ls'[i]? = some v → v ≠ aU → ls[i]? = some v) : JX8_stepTo Q pc ls st I := g_weak h k
def qX8_step : Room := { frames := 1, cells := 0, slots := 0, locals := 20 }
theorem pdX8_step : yX8_step.cls ≠ "java/lang/invoke/MethodHandle" ∧ yX8_step.cls ≠ "java/lang/invoke/VarHandle" ∧ (parseMethodDescriptor yX8_step.desc).map (fun d => d.parameters.length) = some 0 := by decide +kernel
abbrev kX8_step : z_Mt := z_mt yX8_step.cls cX8_step 1 none qX8_step
def JX8_step (Q : z_M → Prop) (pc : Nat) (ls st : List z_V) (I : z_M) : Prop := z_R kX8_step (z_fin (cqV Q)) pc ls st I
def CX8_step (As : List z_V) (I : z_M) (Q : z_M → Prop) : Prop := z_C yX8_step cX8_step 1 none qX8_step As I (cqV Q)
theorem eX8_step {b : Nat} {I : z_M} {Q : z_M → Prop} (k : JX8_step Q 0 [aR b] [] I) : CX8_step [aR b] I Q := z_intro (by decide +kernel) 0 (Nat.le_of_ble_eq_true rfl) k
theorem vX8_step {As : List z_V} {I : z_M} {Q : z_M → Prop} (k : z_CI I → CX8_step As I Q) : CX8_step As I Q := fun hC hA => k hC hC hA
theorem lX8_step {Q : z_M → Prop} {pc : Nat} {ls' ls st : List z_V} {I : z_M} (k : JX8_step Q pc ls' st I) (h : ∀ (i : Nat) (v : z_V), ls'[i]? = some v → v ≠ aU → ls[i]? = some v) : JX8_step Q pc ls st I := g_weak h k
def qX8_isWord : Room := { frames := 4, cells := 0, slots := 0, locals := 85 }
theorem pdX8_isWord : yX8_isWord.cls ≠ "java/lang/invoke/MethodHandle" ∧ yX8_isWord.cls ≠ "java/lang/invoke/VarHandle" ∧ (parseMethodDescriptor yX8_isWord.desc).map (fun d => d.parameters.length) = some 1 := by decide +kernel
abbrev kX8_isWord : z_Mt := z_mt yX8_isWord.cls cX8_isWord 3 (some .boolean) qX8_isWord
def JX8_isWord (Q : Int → z_M → Prop) (pc : Nat) (ls st : List z_V) (I : z_M) : Prop := z_R kX8_isWord (z_fin (cqI Q)) pc ls st I
def CX8_isWord (As : List z_V) (I : z_M) (Q : Int → z_M → Prop) : Prop := z_C yX8_isWord cX8_isWord 3 (some .boolean) qX8_isWord As I (cqI Q)
theorem eX8_isWord {b : Nat} {x0 : Nat} {I : z_M} {Q : Int → z_M → Prop} (k : JX8_isWord Q 0 [aR b, aR x0, aU] [] I) : CX8_isWord [aR b, aR x0] I Q := z_intro (by decide +kernel) 1 (Nat.le_of_ble_eq_true rfl) k
theorem vX8_isWord {As : List z_V} {I : z_M} {Q : Int → z_M → Prop} (k : z_CI I → CX8_isWord As I Q) : CX8_isWord As I Q := fun hC hA => k hC hC hA
theorem lX8_isWord {Q : Int → z_M → Prop} {pc : Nat} {ls' ls st : List z_V} {I : z_M} (k : JX8_isWord Q pc ls' st I) (h : ∀ (i : Nat) (v : z_V), ls'[i]? = some v → v ≠ aU → ls[i]? = some v) : JX8_isWord Q pc ls st I := g_weak h k
def qX8_isLetter : Room := { frames := 0, cells := 0, slots := 0, locals := 0 }
theorem pdX8_isLetter : yX8_isLetter.cls ≠ "java/lang/invoke/MethodHandle" ∧ yX8_isLetter.cls ≠ "java/lang/invoke/VarHandle" ∧ (parseMethodDescriptor yX8_isLetter.desc).map (fun d => d.parameters.length) = some 1 := by decide +kernel
abbrev kX8_isLetter : z_Mt := z_mt yX8_isLetter.cls cX8_isLetter 1 (some .boolean) qX8_isLetter
def JX8_isLetter (Q : Int → z_M → Prop) (pc : Nat) (ls st : List z_V) (I : z_M) : Prop := z_R kX8_isLetter (z_fin (cqI Q)) pc ls st I
def CX8_isLetter (As : List z_V) (I : z_M) (Q : Int → z_M → Prop) : Prop := z_C yX8_isLetter cX8_isLetter 1 (some .boolean) qX8_isLetter As I (cqI Q)
theorem eX8_isLetter {x0 : Int} {I : z_M} {Q : Int → z_M → Prop} (k : JX8_isLetter Q 0 [aI x0] [] I) : CX8_isLetter [aI x0] I Q := z_intro (by decide +kernel) 0 (Nat.le_of_ble_eq_true rfl) k
theorem vX8_isLetter {As : List z_V} {I : z_M} {Q : Int → z_M → Prop} (k : z_CI I → CX8_isLetter As I Q) : CX8_isLetter As I Q := fun hC hA => k hC hC hA
theorem lX8_isLetter {Q : Int → z_M → Prop} {pc : Nat} {ls' ls st : List z_V} {I : z_M} (k : JX8_isLetter Q pc ls' st I) (h : ∀ (i : Nat) (v : z_V), ls'[i]? = some v → v ≠ aU → ls[i]? = some v) : JX8_isLetter Q pc ls st I := g_weak h k
def qX8_isFigure : Room := { frames := 0, cells := 0, slots := 0, locals := 0 }
theorem pdX8_isFigure : yX8_isFigure.cls ≠ "java/lang/invoke/MethodHandle" ∧ yX8_isFigure.cls ≠ "java/lang/invoke/VarHandle" ∧ (parseMethodDescriptor yX8_isFigure.desc).map (fun d => d.parameters.length) = some 1 := by decide +kernel
abbrev kX8_isFigure : z_Mt := z_mt yX8_isFigure.cls cX8_isFigure 1 (some .boolean) qX8_isFigure
def JX8_isFigure (Q : Int → z_M → Prop) (pc : Nat) (ls st : List z_V) (I : z_M) : Prop := z_R kX8_isFigure (z_fin (cqI Q)) pc ls st I
def CX8_isFigure (As : List z_V) (I : z_M) (Q : Int → z_M → Prop) : Prop := z_C yX8_isFigure cX8_isFigure 1 (some .boolean) qX8_isFigure As I (cqI Q)
theorem eX8_isFigure {x0 : Int} {I : z_M} {Q : Int → z_M → Prop} (k : JX8_isFigure Q 0 [aI x0] [] I) : CX8_isFigure [aI x0] I Q := z_intro (by decide +kernel) 0 (Nat.le_of_ble_eq_true rfl) k
theorem vX8_isFigure {As : List z_V} {I : z_M} {Q : Int → z_M → Prop} (k : z_CI I → CX8_isFigure As I Q) : CX8_isFigure As I Q := fun hC hA => k hC hC hA
theorem lX8_isFigure {Q : Int → z_M → Prop} {pc : Nat} {ls' ls st : List z_V} {I : z_M} (k : JX8_isFigure Q pc ls' st I) (h : ∀ (i : Nat) (v : z_V), ls'[i]? = some v → v ≠ aU → ls[i]? = some v) : JX8_isFigure Q pc ls st I := g_weak h k
def qX9_find : Room := { frames := 4, cells := 0, slots := 0, locals := 93 }
theorem pdX9_find : yX9_find.cls ≠ "java/lang/invoke/MethodHandle" ∧ yX9_find.cls ≠ "java/lang/invoke/VarHandle" ∧ (parseMethodDescriptor yX9_find.desc).map (fun d => d.parameters.length) = some 2 := by decide +kernel
abbrev kX9_find : z_Mt := z_mt yX9_find.cls cX9_find 5 none qX9_find
def JX9_find (Q : z_M → Prop) (pc : Nat) (ls st : List z_V) (I : z_M) : Prop := z_R kX9_find (z_fin (cqV Q)) pc ls st I
def CX9_find (As : List z_V) (I : z_M) (Q : z_M → Prop) : Prop := z_C yX9_find cX9_find 5 none qX9_find As I (cqV Q)
theorem eX9_find {b : Nat} {x0 : Nat} {x1 : Int} {I : z_M} {Q : z_M → Prop} (k : JX9_find Q 0 [aR b, aR x0, aI x1, aU, aU] [] I) : CX9_find [aR b, aR x0, aI x1] I Q := z_intro (by decide +kernel) 2 (Nat.le_of_ble_eq_true rfl) k
theorem vX9_find {As : List z_V} {I : z_M} {Q : z_M → Prop} (k : z_CI I → CX9_find As I Q) : CX9_find As I Q := fun hC hA => k hC hC hA
theorem lX9_find {Q : z_M → Prop} {pc : Nat} {ls' ls st : List z_V} {I : z_M} (k : JX9_find Q pc ls' st I) (h : ∀ (i : Nat) (v : z_V), ls'[i]? = some v → v ≠ aU → ls[i]? = some v) : JX9_find Q pc ls st I := g_weak h k
def qX9_fill : Room := { frames := 3, cells := 0, slots := 0, locals := 69 }
theorem pdX9_fill : yX9_fill.cls ≠ "java/lang/invoke/MethodHandle" ∧ yX9_fill.cls ≠ "java/lang/invoke/VarHandle" ∧ (parseMethodDescriptor yX9_fill.desc).map (fun d => d.parameters.length) = some 1 := by decide +kernel
abbrev kX9_fill : z_Mt := z_mt yX9_fill.cls cX9_fill 5 none qX9_fill
def JX9_fill (Q : z_M → Prop) (pc : Nat) (ls st : List z_V) (I : z_M) : Prop := z_R kX9_fill (z_fin (cqV Q)) pc ls st I
def CX9_fill (As : List z_V) (I : z_M) (Q : z_M → Prop) : Prop := z_C yX9_fill cX9_fill 5 none qX9_fill As I (cqV Q)
theorem eX9_fill {b : Nat} {x0 : Nat} {I : z_M} {Q : z_M → Prop} (k : JX9_fill Q 0 [aR b, aR x0, aU, aU, aU] [] I) : CX9_fill [aR b, aR x0] I Q := z_intro (by decide +kernel) 3 (Nat.le_of_ble_eq_true rfl) k
theorem vX9_fill {As : List z_V} {I : z_M} {Q : z_M → Prop} (k : z_CI I → CX9_fill As I Q) : CX9_fill As I Q := fun hC hA => k hC hC hA
theorem lX9_fill {Q : z_M → Prop} {pc : Nat} {ls' ls st : List z_V} {I : z_M} (k : JX9_fill Q pc ls' st I) (h : ∀ (i : Nat) (v : z_V), ls'[i]? = some v → v ≠ aU → ls[i]? = some v) : JX9_fill Q pc ls st I := g_weak h k
def qX9_leastFrom : Room := { frames := 2, cells := 0, slots := 0, locals := 43 }
theorem pdX9_leastFrom : yX9_leastFrom.cls ≠ "java/lang/invoke/MethodHandle" ∧ yX9_leastFrom.cls ≠ "java/lang/invoke/VarHandle" ∧ (parseMethodDescriptor yX9_leastFrom.desc).map (fun d => d.parameters.length) = some 3 := by decide +kernel
abbrev kX9_leastFrom : z_Mt := z_mt yX9_leastFrom.cls cX9_leastFrom 7 (some .int) qX9_leastFrom
def JX9_leastFrom (Q : Int → z_M → Prop) (pc : Nat) (ls st : List z_V) (I : z_M) : Prop := z_R kX9_leastFrom (z_fin (cqI Q)) pc ls st I
def CX9_leastFrom (As : List z_V) (I : z_M) (Q : Int → z_M → Prop) : Prop := z_C yX9_leastFrom cX9_leastFrom 7 (some .int) qX9_leastFrom As I (cqI Q)
theorem eX9_leastFrom {b : Nat} {x0 : Nat} {x1 : Int} {x2 : Int} {I : z_M} {Q : Int → z_M → Prop} (k : JX9_leastFrom Q 0 [aR b, aR x0, aI x1, aI x2, aU, aU, aU] [] I) : CX9_leastFrom [aR b, aR x0, aI x1, aI x2] I Q := z_intro (by decide +kernel) 3 (Nat.le_of_ble_eq_true rfl) k
theorem vX9_leastFrom {As : List z_V} {I : z_M} {Q : Int → z_M → Prop} (k : z_CI I → CX9_leastFrom As I Q) : CX9_leastFrom As I Q := fun hC hA => k hC hC hA
theorem lX9_leastFrom {Q : Int → z_M → Prop} {pc : Nat} {ls' ls st : List z_V} {I : z_M} (k : JX9_leastFrom Q pc ls' st I) (h : ∀ (i : Nat) (v : z_V), ls'[i]? = some v → v ≠ aU → ls[i]? = some v) : JX9_leastFrom Q pc ls st I := g_weak h k
def qX10_organ : Room := { frames := 2, cells := 0, slots := 0, locals := 42 }
theorem pdX10_organ : yX10_organ.cls ≠ "java/lang/invoke/MethodHandle" ∧ yX10_organ.cls ≠ "java/lang/invoke/VarHandle" ∧ (parseMethodDescriptor yX10_organ.desc).map (fun d => d.parameters.length) = some 0 := by decide +kernel
abbrev kX10_organ : z_Mt := z_mt yX10_organ.cls cX10_organ 2 (some .int) qX10_organ
def JX10_organ (Q : Int → z_M → Prop) (pc : Nat) (ls st : List z_V) (I : z_M) : Prop := z_R kX10_organ (z_fin (cqI Q)) pc ls st I
def CX10_organ (As : List z_V) (I : z_M) (Q : Int → z_M → Prop) : Prop := z_C yX10_organ cX10_organ 2 (some .int) qX10_organ As I (cqI Q)
theorem eX10_organ {b : Nat} {I : z_M} {Q : Int → z_M → Prop} (k : JX10_organ Q 0 [aR b, aU] [] I) : CX10_organ [aR b] I Q := z_intro (by decide +kernel) 1 (Nat.le_of_ble_eq_true rfl) k
theorem vX10_organ {As : List z_V} {I : z_M} {Q : Int → z_M → Prop} (k : z_CI I → CX10_organ As I Q) : CX10_organ As I Q := fun hC hA => k hC hC hA
theorem lX10_organ {Q : Int → z_M → Prop} {pc : Nat} {ls' ls st : List z_V} {I : z_M} (k : JX10_organ Q pc ls' st I) (h : ∀ (i : Nat) (v : z_V), ls'[i]? = some v → v ≠ aU → ls[i]? = some v) : JX10_organ Q pc ls st I := g_weak h k
def qX10_place : Room := { frames := 1, cells := 0, slots := 0, locals := 26 }
theorem pdX10_place : yX10_place.cls ≠ "java/lang/invoke/MethodHandle" ∧ yX10_place.cls ≠ "java/lang/invoke/VarHandle" ∧ (parseMethodDescriptor yX10_place.desc).map (fun d => d.parameters.length) = some 5 := by decide +kernel
abbrev kX10_place : z_Mt := z_mt yX10_place.cls cX10_place 6 (some .int) qX10_place
def JX10_place (Q : Int → z_M → Prop) (pc : Nat) (ls st : List z_V) (I : z_M) : Prop := z_R kX10_place (z_fin (cqI Q)) pc ls st I
def CX10_place (As : List z_V) (I : z_M) (Q : Int → z_M → Prop) : Prop := z_C yX10_place cX10_place 6 (some .int) qX10_place As I (cqI Q)
theorem eX10_place {b : Nat} {x0 : Int} {x1 : Int} {x2 : Int} {x3 : Int} {x4 : Int} {I : z_M} {Q : Int → z_M → Prop} (k : JX10_place Q 0 [aR b, aI x0, aI x1, aI x2, aI x3, aI x4] [] I) : CX10_place [aR b, aI x0, aI x1, aI x2, aI x3, aI x4] I Q := z_intro (by decide +kernel) 0 (Nat.le_of_ble_eq_true rfl) k
theorem vX10_place {As : List z_V} {I : z_M} {Q : Int → z_M → Prop} (k : z_CI I → CX10_place As I Q) : CX10_place As I Q := fun hC hA => k hC hC hA
theorem lX10_place {Q : Int → z_M → Prop} {pc : Nat} {ls' ls st : List z_V} {I : z_M} (k : JX10_place Q pc ls' st I) (h : ∀ (i : Nat) (v : z_V), ls'[i]? = some v → v ≠ aU → ls[i]? = some v) : JX10_place Q pc ls st I := g_weak h k
def qX10_pipe : Room := { frames := 2, cells := 0, slots := 0, locals := 43 }
theorem pdX10_pipe : yX10_pipe.cls ≠ "java/lang/invoke/MethodHandle" ∧ yX10_pipe.cls ≠ "java/lang/invoke/VarHandle" ∧ (parseMethodDescriptor yX10_pipe.desc).map (fun d => d.parameters.length) = some 2 := by decide +kernel
abbrev kX10_pipe : z_Mt := z_mt yX10_pipe.cls cX10_pipe 3 (some .int) qX10_pipe
def JX10_pipe (Q : Int → z_M → Prop) (pc : Nat) (ls st : List z_V) (I : z_M) : Prop := z_R kX10_pipe (z_fin (cqI Q)) pc ls st I
def CX10_pipe (As : List z_V) (I : z_M) (Q : Int → z_M → Prop) : Prop := z_C yX10_pipe cX10_pipe 3 (some .int) qX10_pipe As I (cqI Q)
theorem eX10_pipe {b : Nat} {x0 : Int} {x1 : Int} {I : z_M} {Q : Int → z_M → Prop} (k : JX10_pipe Q 0 [aR b, aI x0, aI x1] [] I) : CX10_pipe [aR b, aI x0, aI x1] I Q := z_intro (by decide +kernel) 0 (Nat.le_of_ble_eq_true rfl) k
theorem vX10_pipe {As : List z_V} {I : z_M} {Q : Int → z_M → Prop} (k : z_CI I → CX10_pipe As I Q) : CX10_pipe As I Q := fun hC hA => k hC hC hA
theorem lX10_pipe {Q : Int → z_M → Prop} {pc : Nat} {ls' ls st : List z_V} {I : z_M} (k : JX10_pipe Q pc ls' st I) (h : ∀ (i : Nat) (v : z_V), ls'[i]? = some v → v ≠ aU → ls[i]? = some v) : JX10_pipe Q pc ls st I := g_weak h k
def qX10_note : Room := { frames := 2, cells := 0, slots := 0, locals := 41 }
theorem pdX10_note : yX10_note.cls ≠ "java/lang/invoke/MethodHandle" ∧ yX10_note.cls ≠ "java/lang/invoke/VarHandle" ∧ (parseMethodDescriptor yX10_note.desc).map (fun d => d.parameters.length) = some 2 := by decide +kernel
abbrev kX10_note : z_Mt := z_mt yX10_note.cls cX10_note 3 (some .int) qX10_note
def JX10_note (Q : Int → z_M → Prop) (pc : Nat) (ls st : List z_V) (I : z_M) : Prop := z_R kX10_note (z_fin (cqI Q)) pc ls st I
def CX10_note (As : List z_V) (I : z_M) (Q : Int → z_M → Prop) : Prop := z_C yX10_note cX10_note 3 (some .int) qX10_note As I (cqI Q)
theorem eX10_note {b : Nat} {x0 : Int} {x1 : Int} {I : z_M} {Q : Int → z_M → Prop} (k : JX10_note Q 0 [aR b, aI x0, aI x1] [] I) : CX10_note [aR b, aI x0, aI x1] I Q := z_intro (by decide +kernel) 0 (Nat.le_of_ble_eq_true rfl) k
theorem vX10_note {As : List z_V} {I : z_M} {Q : Int → z_M → Prop} (k : z_CI I → CX10_note As I Q) : CX10_note As I Q := fun hC hA => k hC hC hA
theorem lX10_note {Q : Int → z_M → Prop} {pc : Nat} {ls' ls st : List z_V} {I : z_M} (k : JX10_note Q pc ls' st I) (h : ∀ (i : Nat) (v : z_V), ls'[i]? = some v → v ≠ aU → ls[i]? = some v) : JX10_note Q pc ls st I := g_weak h k
def qX10_hush : Room := { frames := 2, cells := 0, slots := 0, locals := 41 }
theorem pdX10_hush : yX10_hush.cls ≠ "java/lang/invoke/MethodHandle" ∧ yX10_hush.cls ≠ "java/lang/invoke/VarHandle" ∧ (parseMethodDescriptor yX10_hush.desc).map (fun d => d.parameters.length) = some 1 := by decide +kernel
abbrev kX10_hush : z_Mt := z_mt yX10_hush.cls cX10_hush 3 (some .int) qX10_hush
def JX10_hush (Q : Int → z_M → Prop) (pc : Nat) (ls st : List z_V) (I : z_M) : Prop := z_R kX10_hush (z_fin (cqI Q)) pc ls st I
def CX10_hush (As : List z_V) (I : z_M) (Q : Int → z_M → Prop) : Prop := z_C yX10_hush cX10_hush 3 (some .int) qX10_hush As I (cqI Q)
theorem eX10_hush {b : Nat} {x0 : Int} {I : z_M} {Q : Int → z_M → Prop} (k : JX10_hush Q 0 [aR b, aI x0, aU] [] I) : CX10_hush [aR b, aI x0] I Q := z_intro (by decide +kernel) 1 (Nat.le_of_ble_eq_true rfl) k
theorem vX10_hush {As : List z_V} {I : z_M} {Q : Int → z_M → Prop} (k : z_CI I → CX10_hush As I Q) : CX10_hush As I Q := fun hC hA => k hC hC hA
theorem lX10_hush {Q : Int → z_M → Prop} {pc : Nat} {ls' ls st : List z_V} {I : z_M} (k : JX10_hush Q pc ls' st I) (h : ∀ (i : Nat) (v : z_V), ls'[i]? = some v → v ≠ aU → ls[i]? = some v) : JX10_hush Q pc ls st I := g_weak h k
def qX10_type : Room := { frames := 1, cells := 0, slots := 0, locals := 21 }
theorem pdX10_type : yX10_type.cls ≠ "java/lang/invoke/MethodHandle" ∧ yX10_type.cls ≠ "java/lang/invoke/VarHandle" ∧ (parseMethodDescriptor yX10_type.desc).map (fun d => d.parameters.length) = some 1 := by decide +kernel
abbrev kX10_type : z_Mt := z_mt yX10_type.cls cX10_type 2 (some .int) qX10_type
def JX10_type (Q : Int → z_M → Prop) (pc : Nat) (ls st : List z_V) (I : z_M) : Prop := z_R kX10_type (z_fin (cqI Q)) pc ls st I
def CX10_type (As : List z_V) (I : z_M) (Q : Int → z_M → Prop) : Prop := z_C yX10_type cX10_type 2 (some .int) qX10_type As I (cqI Q)
theorem eX10_type {b : Nat} {x0 : Int} {I : z_M} {Q : Int → z_M → Prop} (k : JX10_type Q 0 [aR b, aI x0] [] I) : CX10_type [aR b, aI x0] I Q := z_intro (by decide +kernel) 0 (Nat.le_of_ble_eq_true rfl) k
theorem vX10_type {As : List z_V} {I : z_M} {Q : Int → z_M → Prop} (k : z_CI I → CX10_type As I Q) : CX10_type As I Q := fun hC hA => k hC hC hA
theorem lX10_type {Q : Int → z_M → Prop} {pc : Nat} {ls' ls st : List z_V} {I : z_M} (k : JX10_type Q pc ls' st I) (h : ∀ (i : Nat) (v : z_V), ls'[i]? = some v → v ≠ aU → ls[i]? = some v) : JX10_type Q pc ls st I := g_weak h k
def qX10_clear : Room := { frames := 0, cells := 0, slots := 0, locals := 0 }
theorem pdX10_clear : yX10_clear.cls ≠ "java/lang/invoke/MethodHandle" ∧ yX10_clear.cls ≠ "java/lang/invoke/VarHandle" ∧ (parseMethodDescriptor yX10_clear.desc).map (fun d => d.parameters.length) = some 0 := by decide +kernel
abbrev kX10_clear : z_Mt := z_mt yX10_clear.cls cX10_clear 2 (some .int) qX10_clear
def JX10_clear (Q : Int → z_M → Prop) (pc : Nat) (ls st : List z_V) (I : z_M) : Prop := z_R kX10_clear (z_fin (cqI Q)) pc ls st I
def CX10_clear (As : List z_V) (I : z_M) (Q : Int → z_M → Prop) : Prop := z_C yX10_clear cX10_clear 2 (some .int) qX10_clear As I (cqI Q)
theorem eX10_clear {b : Nat} {I : z_M} {Q : Int → z_M → Prop} (k : JX10_clear Q 0 [aR b, aU] [] I) : CX10_clear [aR b] I Q := z_intro (by decide +kernel) 1 (Nat.le_of_ble_eq_true rfl) k
theorem vX10_clear {As : List z_V} {I : z_M} {Q : Int → z_M → Prop} (k : z_CI I → CX10_clear As I Q) : CX10_clear As I Q := fun hC hA => k hC hC hA
theorem lX10_clear {Q : Int → z_M → Prop} {pc : Nat} {ls' ls st : List z_V} {I : z_M} (k : JX10_clear Q pc ls' st I) (h : ∀ (i : Nat) (v : z_V), ls'[i]? = some v → v ≠ aU → ls[i]? = some v) : JX10_clear Q pc ls st I := g_weak h k
def qX10_read : Room := { frames := 7, cells := 0, slots := 0, locals := 150 }
theorem pdX10_read : yX10_read.cls ≠ "java/lang/invoke/MethodHandle" ∧ yX10_read.cls ≠ "java/lang/invoke/VarHandle" ∧ (parseMethodDescriptor yX10_read.desc).map (fun d => d.parameters.length) = some 0 := by decide +kernel
abbrev kX10_read : z_Mt := z_mt yX10_read.cls cX10_read 2 (some .int) qX10_read
def JX10_read (Q : Int → z_M → Prop) (pc : Nat) (ls st : List z_V) (I : z_M) : Prop := z_R kX10_read (z_fin (cqI Q)) pc ls st I
def CX10_read (As : List z_V) (I : z_M) (Q : Int → z_M → Prop) : Prop := z_C yX10_read cX10_read 2 (some .int) qX10_read As I (cqI Q)
theorem eX10_read {b : Nat} {I : z_M} {Q : Int → z_M → Prop} (k : JX10_read Q 0 [aR b, aU] [] I) : CX10_read [aR b] I Q := z_intro (by decide +kernel) 1 (Nat.le_of_ble_eq_true rfl) k
theorem vX10_read {As : List z_V} {I : z_M} {Q : Int → z_M → Prop} (k : z_CI I → CX10_read As I Q) : CX10_read As I Q := fun hC hA => k hC hC hA
theorem lX10_read {Q : Int → z_M → Prop} {pc : Nat} {ls' ls st : List z_V} {I : z_M} (k : JX10_read Q pc ls' st I) (h : ∀ (i : Nat) (v : z_V), ls'[i]? = some v → v ≠ aU → ls[i]? = some v) : JX10_read Q pc ls st I := g_weak h k
def qX10_pass : Room := { frames := 4, cells := 0, slots := 0, locals := 89 }
theorem pdX10_pass : yX10_pass.cls ≠ "java/lang/invoke/MethodHandle" ∧ yX10_pass.cls ≠ "java/lang/invoke/VarHandle" ∧ (parseMethodDescriptor yX10_pass.desc).map (fun d => d.parameters.length) = some 1 := by decide +kernel
abbrev kX10_pass : z_Mt := z_mt yX10_pass.cls cX10_pass 3 (some .int) qX10_pass
def JX10_pass (Q : Int → z_M → Prop) (pc : Nat) (ls st : List z_V) (I : z_M) : Prop := z_R kX10_pass (z_fin (cqI Q)) pc ls st I
def CX10_pass (As : List z_V) (I : z_M) (Q : Int → z_M → Prop) : Prop := z_C yX10_pass cX10_pass 3 (some .int) qX10_pass As I (cqI Q)
theorem eX10_pass {b : Nat} {x0 : Int} {I : z_M} {Q : Int → z_M → Prop} (k : JX10_pass Q 0 [aR b, aI x0, aU] [] I) : CX10_pass [aR b, aI x0] I Q := z_intro (by decide +kernel) 1 (Nat.le_of_ble_eq_true rfl) k
theorem vX10_pass {As : List z_V} {I : z_M} {Q : Int → z_M → Prop} (k : z_CI I → CX10_pass As I Q) : CX10_pass As I Q := fun hC hA => k hC hC hA
theorem lX10_pass {Q : Int → z_M → Prop} {pc : Nat} {ls' ls st : List z_V} {I : z_M} (k : JX10_pass Q pc ls' st I) (h : ∀ (i : Nat) (v : z_V), ls'[i]? = some v → v ≠ aU → ls[i]? = some v) : JX10_pass Q pc ls st I := g_weak h k
def qX10_fetch : Room := { frames := 2, cells := 0, slots := 0, locals := 42 }
theorem pdX10_fetch : yX10_fetch.cls ≠ "java/lang/invoke/MethodHandle" ∧ yX10_fetch.cls ≠ "java/lang/invoke/VarHandle" ∧ (parseMethodDescriptor yX10_fetch.desc).map (fun d => d.parameters.length) = some 1 := by decide +kernel
abbrev kX10_fetch : z_Mt := z_mt yX10_fetch.cls cX10_fetch 3 (some .int) qX10_fetch
def JX10_fetch (Q : Int → z_M → Prop) (pc : Nat) (ls st : List z_V) (I : z_M) : Prop := z_R kX10_fetch (z_fin (cqI Q)) pc ls st I
def CX10_fetch (As : List z_V) (I : z_M) (Q : Int → z_M → Prop) : Prop := z_C yX10_fetch cX10_fetch 3 (some .int) qX10_fetch As I (cqI Q)
theorem eX10_fetch {b : Nat} {x0 : Int} {I : z_M} {Q : Int → z_M → Prop} (k : JX10_fetch Q 0 [aR b, aI x0, aU] [] I) : CX10_fetch [aR b, aI x0] I Q := z_intro (by decide +kernel) 1 (Nat.le_of_ble_eq_true rfl) k
theorem vX10_fetch {As : List z_V} {I : z_M} {Q : Int → z_M → Prop} (k : z_CI I → CX10_fetch As I Q) : CX10_fetch As I Q := fun hC hA => k hC hC hA
theorem lX10_fetch {Q : Int → z_M → Prop} {pc : Nat} {ls' ls st : List z_V} {I : z_M} (k : JX10_fetch Q pc ls' st I) (h : ∀ (i : Nat) (v : z_V), ls'[i]? = some v → v ≠ aU → ls[i]? = some v) : JX10_fetch Q pc ls st I := g_weak h k
def qX10_undo : Room := { frames := 2, cells := 0, slots := 0, locals := 40 }
theorem pdX10_undo : yX10_undo.cls ≠ "java/lang/invoke/MethodHandle" ∧ yX10_undo.cls ≠ "java/lang/invoke/VarHandle" ∧ (parseMethodDescriptor yX10_undo.desc).map (fun d => d.parameters.length) = some 0 := by decide +kernel
abbrev kX10_undo : z_Mt := z_mt yX10_undo.cls cX10_undo 1 (some .int) qX10_undo
def JX10_undo (Q : Int → z_M → Prop) (pc : Nat) (ls st : List z_V) (I : z_M) : Prop := z_R kX10_undo (z_fin (cqI Q)) pc ls st I
def CX10_undo (As : List z_V) (I : z_M) (Q : Int → z_M → Prop) : Prop := z_C yX10_undo cX10_undo 1 (some .int) qX10_undo As I (cqI Q)
theorem eX10_undo {b : Nat} {I : z_M} {Q : Int → z_M → Prop} (k : JX10_undo Q 0 [aR b] [] I) : CX10_undo [aR b] I Q := z_intro (by decide +kernel) 0 (Nat.le_of_ble_eq_true rfl) k
theorem vX10_undo {As : List z_V} {I : z_M} {Q : Int → z_M → Prop} (k : z_CI I → CX10_undo As I Q) : CX10_undo As I Q := fun hC hA => k hC hC hA
theorem lX10_undo {Q : Int → z_M → Prop} {pc : Nat} {ls' ls st : List z_V} {I : z_M} (k : JX10_undo Q pc ls' st I) (h : ∀ (i : Nat) (v : z_V), ls'[i]? = some v → v ≠ aU → ls[i]? = some v) : JX10_undo Q pc ls st I := g_weak h k
def qX10_of : Room := { frames := 4, cells := 0, slots := 0, locals := 88 }
theorem pdX10_of : yX10_of.cls ≠ "java/lang/invoke/MethodHandle" ∧ yX10_of.cls ≠ "java/lang/invoke/VarHandle" ∧ (parseMethodDescriptor yX10_of.desc).map (fun d => d.parameters.length) = some 2 := by decide +kernel
abbrev kX10_of : z_Mt := z_mt yX10_of.cls cX10_of 3 (some .int) qX10_of
def JX10_of (Q : Int → z_M → Prop) (pc : Nat) (ls st : List z_V) (I : z_M) : Prop := z_R kX10_of (z_fin (cqI Q)) pc ls st I
def CX10_of (As : List z_V) (I : z_M) (Q : Int → z_M → Prop) : Prop := z_C yX10_of cX10_of 3 (some .int) qX10_of As I (cqI Q)
theorem eX10_of {b : Nat} {x0 : Int} {x1 : Int} {I : z_M} {Q : Int → z_M → Prop} (k : JX10_of Q 0 [aR b, aI x0, aI x1] [] I) : CX10_of [aR b, aI x0, aI x1] I Q := z_intro (by decide +kernel) 0 (Nat.le_of_ble_eq_true rfl) k
theorem vX10_of {As : List z_V} {I : z_M} {Q : Int → z_M → Prop} (k : z_CI I → CX10_of As I Q) : CX10_of As I Q := fun hC hA => k hC hC hA
theorem lX10_of {Q : Int → z_M → Prop} {pc : Nat} {ls' ls st : List z_V} {I : z_M} (k : JX10_of Q pc ls' st I) (h : ∀ (i : Nat) (v : z_V), ls'[i]? = some v → v ≠ aU → ls[i]? = some v) : JX10_of Q pc ls st I := g_weak h k
def qX10_at : Room := { frames := 2, cells := 0, slots := 0, locals := 43 }
theorem pdX10_at : yX10_at.cls ≠ "java/lang/invoke/MethodHandle" ∧ yX10_at.cls ≠ "java/lang/invoke/VarHandle" ∧ (parseMethodDescriptor yX10_at.desc).map (fun d => d.parameters.length) = some 2 := by decide +kernel
abbrev kX10_at : z_Mt := z_mt yX10_at.cls cX10_at 3 (some .int) qX10_at
def JX10_at (Q : Int → z_M → Prop) (pc : Nat) (ls st : List z_V) (I : z_M) : Prop := z_R kX10_at (z_fin (cqI Q)) pc ls st I
def CX10_at (As : List z_V) (I : z_M) (Q : Int → z_M → Prop) : Prop := z_C yX10_at cX10_at 3 (some .int) qX10_at As I (cqI Q)
theorem eX10_at {b : Nat} {x0 : Int} {x1 : Int} {I : z_M} {Q : Int → z_M → Prop} (k : JX10_at Q 0 [aR b, aI x0, aI x1] [] I) : CX10_at [aR b, aI x0, aI x1] I Q := z_intro (by decide +kernel) 0 (Nat.le_of_ble_eq_true rfl) k
theorem vX10_at {As : List z_V} {I : z_M} {Q : Int → z_M → Prop} (k : z_CI I → CX10_at As I Q) : CX10_at As I Q := fun hC hA => k hC hC hA
theorem lX10_at {Q : Int → z_M → Prop} {pc : Nat} {ls' ls st : List z_V} {I : z_M} (k : JX10_at Q pc ls' st I) (h : ∀ (i : Nat) (v : z_V), ls'[i]? = some v → v ≠ aU → ls[i]? = some v) : JX10_at Q pc ls st I := g_weak h k
def qX10_then : Room := { frames := 5, cells := 0, slots := 0, locals := 111 }
theorem pdX10_then : yX10_then.cls ≠ "java/lang/invoke/MethodHandle" ∧ yX10_then.cls ≠ "java/lang/invoke/VarHandle" ∧ (parseMethodDescriptor yX10_then.desc).map (fun d => d.parameters.length) = some 2 := by decide +kernel
abbrev kX10_then : z_Mt := z_mt yX10_then.cls cX10_then 3 (some .int) qX10_then
def JX10_then (Q : Int → z_M → Prop) (pc : Nat) (ls st : List z_V) (I : z_M) : Prop := z_R kX10_then (z_fin (cqI Q)) pc ls st I
def CX10_then (As : List z_V) (I : z_M) (Q : Int → z_M → Prop) : Prop := z_C yX10_then cX10_then 3 (some .int) qX10_then As I (cqI Q)
theorem eX10_then {b : Nat} {x0 : Int} {x1 : Int} {I : z_M} {Q : Int → z_M → Prop} (k : JX10_then Q 0 [aR b, aI x0, aI x1] [] I) : CX10_then [aR b, aI x0, aI x1] I Q := z_intro (by decide +kernel) 0 (Nat.le_of_ble_eq_true rfl) k
theorem vX10_then {As : List z_V} {I : z_M} {Q : Int → z_M → Prop} (k : z_CI I → CX10_then As I Q) : CX10_then As I Q := fun hC hA => k hC hC hA
theorem lX10_then {Q : Int → z_M → Prop} {pc : Nat} {ls' ls st : List z_V} {I : z_M} (k : JX10_then Q pc ls' st I) (h : ∀ (i : Nat) (v : z_V), ls'[i]? = some v → v ≠ aU → ls[i]? = some v) : JX10_then Q pc ls st I := g_weak h k
def qX10_left : Room := { frames := 5, cells := 0, slots := 0, locals := 111 }
theorem pdX10_left : yX10_left.cls ≠ "java/lang/invoke/MethodHandle" ∧ yX10_left.cls ≠ "java/lang/invoke/VarHandle" ∧ (parseMethodDescriptor yX10_left.desc).map (fun d => d.parameters.length) = some 1 := by decide +kernel
abbrev kX10_left : z_Mt := z_mt yX10_left.cls cX10_left 2 (some .int) qX10_left
def JX10_left (Q : Int → z_M → Prop) (pc : Nat) (ls st : List z_V) (I : z_M) : Prop := z_R kX10_left (z_fin (cqI Q)) pc ls st I
def CX10_left (As : List z_V) (I : z_M) (Q : Int → z_M → Prop) : Prop := z_C yX10_left cX10_left 2 (some .int) qX10_left As I (cqI Q)
theorem eX10_left {b : Nat} {x0 : Int} {I : z_M} {Q : Int → z_M → Prop} (k : JX10_left Q 0 [aR b, aI x0] [] I) : CX10_left [aR b, aI x0] I Q := z_intro (by decide +kernel) 0 (Nat.le_of_ble_eq_true rfl) k
theorem vX10_left {As : List z_V} {I : z_M} {Q : Int → z_M → Prop} (k : z_CI I → CX10_left As I Q) : CX10_left As I Q := fun hC hA => k hC hC hA
theorem lX10_left {Q : Int → z_M → Prop} {pc : Nat} {ls' ls st : List z_V} {I : z_M} (k : JX10_left Q pc ls' st I) (h : ∀ (i : Nat) (v : z_V), ls'[i]? = some v → v ≠ aU → ls[i]? = some v) : JX10_left Q pc ls st I := g_weak h k
def qX10_plays : Room := { frames := 2, cells := 0, slots := 0, locals := 48 }
theorem pdX10_plays : yX10_plays.cls ≠ "java/lang/invoke/MethodHandle" ∧ yX10_plays.cls ≠ "java/lang/invoke/VarHandle" ∧ (parseMethodDescriptor yX10_plays.desc).map (fun d => d.parameters.length) = some 2 := by decide +kernel
abbrev kX10_plays : z_Mt := z_mt yX10_plays.cls cX10_plays 3 (some .int) qX10_plays
def JX10_plays (Q : Int → z_M → Prop) (pc : Nat) (ls st : List z_V) (I : z_M) : Prop := z_R kX10_plays (z_fin (cqI Q)) pc ls st I
def CX10_plays (As : List z_V) (I : z_M) (Q : Int → z_M → Prop) : Prop := z_C yX10_plays cX10_plays 3 (some .int) qX10_plays As I (cqI Q)
theorem eX10_plays {b : Nat} {x0 : Int} {x1 : Int} {I : z_M} {Q : Int → z_M → Prop} (k : JX10_plays Q 0 [aR b, aI x0, aI x1] [] I) : CX10_plays [aR b, aI x0, aI x1] I Q := z_intro (by decide +kernel) 0 (Nat.le_of_ble_eq_true rfl) k
theorem vX10_plays {As : List z_V} {I : z_M} {Q : Int → z_M → Prop} (k : z_CI I → CX10_plays As I Q) : CX10_plays As I Q := fun hC hA => k hC hC hA
theorem lX10_plays {Q : Int → z_M → Prop} {pc : Nat} {ls' ls st : List z_V} {I : z_M} (k : JX10_plays Q pc ls' st I) (h : ∀ (i : Nat) (v : z_V), ls'[i]? = some v → v ≠ aU → ls[i]? = some v) : JX10_plays Q pc ls st I := g_weak h k
def qX10_best : Room := { frames := 2, cells := 0, slots := 0, locals := 48 }
theorem pdX10_best : yX10_best.cls ≠ "java/lang/invoke/MethodHandle" ∧ yX10_best.cls ≠ "java/lang/invoke/VarHandle" ∧ (parseMethodDescriptor yX10_best.desc).map (fun d => d.parameters.length) = some 1 := by decide +kernel
abbrev kX10_best : z_Mt := z_mt yX10_best.cls cX10_best 9 (some .int) qX10_best
def JX10_best (Q : Int → z_M → Prop) (pc : Nat) (ls st : List z_V) (I : z_M) : Prop := z_R kX10_best (z_fin (cqI Q)) pc ls st I
def CX10_best (As : List z_V) (I : z_M) (Q : Int → z_M → Prop) : Prop := z_C yX10_best cX10_best 9 (some .int) qX10_best As I (cqI Q)
theorem eX10_best {b : Nat} {x0 : Int} {I : z_M} {Q : Int → z_M → Prop} (k : JX10_best Q 0 [aR b, aI x0, aU, aU, aU, aU, aU, aU, aU] [] I) : CX10_best [aR b, aI x0] I Q := z_intro (by decide +kernel) 7 (Nat.le_of_ble_eq_true rfl) k
theorem vX10_best {As : List z_V} {I : z_M} {Q : Int → z_M → Prop} (k : z_CI I → CX10_best As I Q) : CX10_best As I Q := fun hC hA => k hC hC hA
theorem lX10_best {Q : Int → z_M → Prop} {pc : Nat} {ls' ls st : List z_V} {I : z_M} (k : JX10_best Q pc ls' st I) (h : ∀ (i : Nat) (v : z_V), ls'[i]? = some v → v ≠ aU → ls[i]? = some v) : JX10_best Q pc ls st I := g_weak h k
def qX10_missing : Room := { frames := 2, cells := 0, slots := 0, locals := 41 }
theorem pdX10_missing : yX10_missing.cls ≠ "java/lang/invoke/MethodHandle" ∧ yX10_missing.cls ≠ "java/lang/invoke/VarHandle" ∧ (parseMethodDescriptor yX10_missing.desc).map (fun d => d.parameters.length) = some 2 := by decide +kernel
abbrev kX10_missing : z_Mt := z_mt yX10_missing.cls cX10_missing 8 (some .int) qX10_missing
def JX10_missing (Q : Int → z_M → Prop) (pc : Nat) (ls st : List z_V) (I : z_M) : Prop := z_R kX10_missing (z_fin (cqI Q)) pc ls st I
def CX10_missing (As : List z_V) (I : z_M) (Q : Int → z_M → Prop) : Prop := z_C yX10_missing cX10_missing 8 (some .int) qX10_missing As I (cqI Q)
theorem eX10_missing {b : Nat} {x0 : Int} {x1 : Int} {I : z_M} {Q : Int → z_M → Prop} (k : JX10_missing Q 0 [aR b, aI x0, aI x1, aU, aU, aU, aU, aU] [] I) : CX10_missing [aR b, aI x0, aI x1] I Q := z_intro (by decide +kernel) 5 (Nat.le_of_ble_eq_true rfl) k
theorem vX10_missing {As : List z_V} {I : z_M} {Q : Int → z_M → Prop} (k : z_CI I → CX10_missing As I Q) : CX10_missing As I Q := fun hC hA => k hC hC hA
theorem lX10_missing {Q : Int → z_M → Prop} {pc : Nat} {ls' ls st : List z_V} {I : z_M} (k : JX10_missing Q pc ls' st I) (h : ∀ (i : Nat) (v : z_V), ls'[i]? = some v → v ≠ aU → ls[i]? = some v) : JX10_missing Q pc ls st I := g_weak h k
def qX10_fetchAll : Room := { frames := 2, cells := 0, slots := 0, locals := 50 }
theorem pdX10_fetchAll : yX10_fetchAll.cls ≠ "java/lang/invoke/MethodHandle" ∧ yX10_fetchAll.cls ≠ "java/lang/invoke/VarHandle" ∧ (parseMethodDescriptor yX10_fetchAll.desc).map (fun d => d.parameters.length) = some 1 := by decide +kernel
abbrev kX10_fetchAll : z_Mt := z_mt yX10_fetchAll.cls cX10_fetchAll 7 (some .int) qX10_fetchAll
def JX10_fetchAll (Q : Int → z_M → Prop) (pc : Nat) (ls st : List z_V) (I : z_M) : Prop := z_R kX10_fetchAll (z_fin (cqI Q)) pc ls st I
def CX10_fetchAll (As : List z_V) (I : z_M) (Q : Int → z_M → Prop) : Prop := z_C yX10_fetchAll cX10_fetchAll 7 (some .int) qX10_fetchAll As I (cqI Q)
theorem eX10_fetchAll {b : Nat} {x0 : Int} {I : z_M} {Q : Int → z_M → Prop} (k : JX10_fetchAll Q 0 [aR b, aI x0, aU, aU, aU, aU, aU] [] I) : CX10_fetchAll [aR b, aI x0] I Q := z_intro (by decide +kernel) 5 (Nat.le_of_ble_eq_true rfl) k
theorem vX10_fetchAll {As : List z_V} {I : z_M} {Q : Int → z_M → Prop} (k : z_CI I → CX10_fetchAll As I Q) : CX10_fetchAll As I Q := fun hC hA => k hC hC hA
theorem lX10_fetchAll {Q : Int → z_M → Prop} {pc : Nat} {ls' ls st : List z_V} {I : z_M} (k : JX10_fetchAll Q pc ls' st I) (h : ∀ (i : Nat) (v : z_V), ls'[i]? = some v → v ≠ aU → ls[i]? = some v) : JX10_fetchAll Q pc ls st I := g_weak h k
def qX10_falls : Room := { frames := 4, cells := 0, slots := 0, locals := 89 }
theorem pdX10_falls : yX10_falls.cls ≠ "java/lang/invoke/MethodHandle" ∧ yX10_falls.cls ≠ "java/lang/invoke/VarHandle" ∧ (parseMethodDescriptor yX10_falls.desc).map (fun d => d.parameters.length) = some 1 := by decide +kernel
abbrev kX10_falls : z_Mt := z_mt yX10_falls.cls cX10_falls 3 (some .int) qX10_falls
def JX10_falls (Q : Int → z_M → Prop) (pc : Nat) (ls st : List z_V) (I : z_M) : Prop := z_R kX10_falls (z_fin (cqI Q)) pc ls st I
def CX10_falls (As : List z_V) (I : z_M) (Q : Int → z_M → Prop) : Prop := z_C yX10_falls cX10_falls 3 (some .int) qX10_falls As I (cqI Q)
theorem eX10_falls {b : Nat} {x0 : Int} {I : z_M} {Q : Int → z_M → Prop} (k : JX10_falls Q 0 [aR b, aI x0, aU] [] I) : CX10_falls [aR b, aI x0] I Q := z_intro (by decide +kernel) 1 (Nat.le_of_ble_eq_true rfl) k
theorem vX10_falls {As : List z_V} {I : z_M} {Q : Int → z_M → Prop} (k : z_CI I → CX10_falls As I Q) : CX10_falls As I Q := fun hC hA => k hC hC hA
theorem lX10_falls {Q : Int → z_M → Prop} {pc : Nat} {ls' ls st : List z_V} {I : z_M} (k : JX10_falls Q pc ls' st I) (h : ∀ (i : Nat) (v : z_V), ls'[i]? = some v → v ≠ aU → ls[i]? = some v) : JX10_falls Q pc ls st I := g_weak h k
def qX10_walk : Room := { frames := 5, cells := 0, slots := 0, locals := 117 }
theorem pdX10_walk : yX10_walk.cls ≠ "java/lang/invoke/MethodHandle" ∧ yX10_walk.cls ≠ "java/lang/invoke/VarHandle" ∧ (parseMethodDescriptor yX10_walk.desc).map (fun d => d.parameters.length) = some 2 := by decide +kernel
abbrev kX10_walk : z_Mt := z_mt yX10_walk.cls cX10_walk 3 (some .int) qX10_walk
def JX10_walk (Q : Int → z_M → Prop) (pc : Nat) (ls st : List z_V) (I : z_M) : Prop := z_R kX10_walk (z_fin (cqI Q)) pc ls st I
def CX10_walk (As : List z_V) (I : z_M) (Q : Int → z_M → Prop) : Prop := z_C yX10_walk cX10_walk 3 (some .int) qX10_walk As I (cqI Q)
theorem eX10_walk {b : Nat} {x0 : Int} {x1 : Int} {I : z_M} {Q : Int → z_M → Prop} (k : JX10_walk Q 0 [aR b, aI x0, aI x1] [] I) : CX10_walk [aR b, aI x0, aI x1] I Q := z_intro (by decide +kernel) 0 (Nat.le_of_ble_eq_true rfl) k
theorem vX10_walk {As : List z_V} {I : z_M} {Q : Int → z_M → Prop} (k : z_CI I → CX10_walk As I Q) : CX10_walk As I Q := fun hC hA => k hC hC hA
theorem lX10_walk {Q : Int → z_M → Prop} {pc : Nat} {ls' ls st : List z_V} {I : z_M} (k : JX10_walk Q pc ls' st I) (h : ∀ (i : Nat) (v : z_V), ls'[i]? = some v → v ≠ aU → ls[i]? = some v) : JX10_walk Q pc ls st I := g_weak h k
def qX10_reading : Room := { frames := 2, cells := 0, slots := 0, locals := 42 }
theorem pdX10_reading : yX10_reading.cls ≠ "java/lang/invoke/MethodHandle" ∧ yX10_reading.cls ≠ "java/lang/invoke/VarHandle" ∧ (parseMethodDescriptor yX10_reading.desc).map (fun d => d.parameters.length) = some 4 := by decide +kernel
abbrev kX10_reading : z_Mt := z_mt yX10_reading.cls cX10_reading 5 (some .int) qX10_reading
def JX10_reading (Q : Int → z_M → Prop) (pc : Nat) (ls st : List z_V) (I : z_M) : Prop := z_R kX10_reading (z_fin (cqI Q)) pc ls st I
def CX10_reading (As : List z_V) (I : z_M) (Q : Int → z_M → Prop) : Prop := z_C yX10_reading cX10_reading 5 (some .int) qX10_reading As I (cqI Q)
theorem eX10_reading {b : Nat} {x0 : Int} {x1 : Int} {x2 : Int} {x3 : Int} {I : z_M} {Q : Int → z_M → Prop} (k : JX10_reading Q 0 [aR b, aI x0, aI x1, aI x2, aI x3] [] I) : CX10_reading [aR b, aI x0, aI x1, aI x2, aI x3] I Q := z_intro (by decide +kernel) 0 (Nat.le_of_ble_eq_true rfl) k
theorem vX10_reading {As : List z_V} {I : z_M} {Q : Int → z_M → Prop} (k : z_CI I → CX10_reading As I Q) : CX10_reading As I Q := fun hC hA => k hC hC hA
theorem lX10_reading {Q : Int → z_M → Prop} {pc : Nat} {ls' ls st : List z_V} {I : z_M} (k : JX10_reading Q pc ls' st I) (h : ∀ (i : Nat) (v : z_V), ls'[i]? = some v → v ≠ aU → ls[i]? = some v) : JX10_reading Q pc ls st I := g_weak h k
def qX10_forget : Room := { frames := 0, cells := 0, slots := 0, locals := 0 }
theorem pdX10_forget : yX10_forget.cls ≠ "java/lang/invoke/MethodHandle" ∧ yX10_forget.cls ≠ "java/lang/invoke/VarHandle" ∧ (parseMethodDescriptor yX10_forget.desc).map (fun d => d.parameters.length) = some 0 := by decide +kernel
abbrev kX10_forget : z_Mt := z_mt yX10_forget.cls cX10_forget 2 (some .int) qX10_forget
def JX10_forget (Q : Int → z_M → Prop) (pc : Nat) (ls st : List z_V) (I : z_M) : Prop := z_R kX10_forget (z_fin (cqI Q)) pc ls st I
def CX10_forget (As : List z_V) (I : z_M) (Q : Int → z_M → Prop) : Prop := z_C yX10_forget cX10_forget 2 (some .int) qX10_forget As I (cqI Q)
theorem eX10_forget {b : Nat} {I : z_M} {Q : Int → z_M → Prop} (k : JX10_forget Q 0 [aR b, aU] [] I) : CX10_forget [aR b] I Q := z_intro (by decide +kernel) 1 (Nat.le_of_ble_eq_true rfl) k
theorem vX10_forget {As : List z_V} {I : z_M} {Q : Int → z_M → Prop} (k : z_CI I → CX10_forget As I Q) : CX10_forget As I Q := fun hC hA => k hC hC hA
theorem lX10_forget {Q : Int → z_M → Prop} {pc : Nat} {ls' ls st : List z_V} {I : z_M} (k : JX10_forget Q pc ls' st I) (h : ∀ (i : Nat) (v : z_V), ls'[i]? = some v → v ≠ aU → ls[i]? = some v) : JX10_forget Q pc ls st I := g_weak h k
def qX10_may : Room := { frames := 6, cells := 0, slots := 0, locals := 134 }
theorem pdX10_may : yX10_may.cls ≠ "java/lang/invoke/MethodHandle" ∧ yX10_may.cls ≠ "java/lang/invoke/VarHandle" ∧ (parseMethodDescriptor yX10_may.desc).map (fun d => d.parameters.length) = some 1 := by decide +kernel
abbrev kX10_may : z_Mt := z_mt yX10_may.cls cX10_may 2 (some .int) qX10_may
def JX10_may (Q : Int → z_M → Prop) (pc : Nat) (ls st : List z_V) (I : z_M) : Prop := z_R kX10_may (z_fin (cqI Q)) pc ls st I
def CX10_may (As : List z_V) (I : z_M) (Q : Int → z_M → Prop) : Prop := z_C yX10_may cX10_may 2 (some .int) qX10_may As I (cqI Q)
theorem eX10_may {b : Nat} {x0 : Int} {I : z_M} {Q : Int → z_M → Prop} (k : JX10_may Q 0 [aR b, aI x0] [] I) : CX10_may [aR b, aI x0] I Q := z_intro (by decide +kernel) 0 (Nat.le_of_ble_eq_true rfl) k
theorem vX10_may {As : List z_V} {I : z_M} {Q : Int → z_M → Prop} (k : z_CI I → CX10_may As I Q) : CX10_may As I Q := fun hC hA => k hC hC hA
theorem lX10_may {Q : Int → z_M → Prop} {pc : Nat} {ls' ls st : List z_V} {I : z_M} (k : JX10_may Q pc ls' st I) (h : ∀ (i : Nat) (v : z_V), ls'[i]? = some v → v ≠ aU → ls[i]? = some v) : JX10_may Q pc ls st I := g_weak h k
def qX10_listen : Room := { frames := 6, cells := 0, slots := 0, locals := 134 }
theorem pdX10_listen : yX10_listen.cls ≠ "java/lang/invoke/MethodHandle" ∧ yX10_listen.cls ≠ "java/lang/invoke/VarHandle" ∧ (parseMethodDescriptor yX10_listen.desc).map (fun d => d.parameters.length) = some 2 := by decide +kernel
abbrev kX10_listen : z_Mt := z_mt yX10_listen.cls cX10_listen 8 (some .int) qX10_listen
def JX10_listen (Q : Int → z_M → Prop) (pc : Nat) (ls st : List z_V) (I : z_M) : Prop := z_R kX10_listen (z_fin (cqI Q)) pc ls st I
def CX10_listen (As : List z_V) (I : z_M) (Q : Int → z_M → Prop) : Prop := z_C yX10_listen cX10_listen 8 (some .int) qX10_listen As I (cqI Q)
theorem eX10_listen {b : Nat} {x0 : Int} {x1 : Int} {I : z_M} {Q : Int → z_M → Prop} (k : JX10_listen Q 0 [aR b, aI x0, aI x1, aU, aU, aU, aU, aU] [] I) : CX10_listen [aR b, aI x0, aI x1] I Q := z_intro (by decide +kernel) 5 (Nat.le_of_ble_eq_true rfl) k
theorem vX10_listen {As : List z_V} {I : z_M} {Q : Int → z_M → Prop} (k : z_CI I → CX10_listen As I Q) : CX10_listen As I Q := fun hC hA => k hC hC hA
theorem lX10_listen {Q : Int → z_M → Prop} {pc : Nat} {ls' ls st : List z_V} {I : z_M} (k : JX10_listen Q pc ls' st I) (h : ∀ (i : Nat) (v : z_V), ls'[i]? = some v → v ≠ aU → ls[i]? = some v) : JX10_listen Q pc ls st I := g_weak h k
def qX10_wish : Room := { frames := 5, cells := 0, slots := 0, locals := 111 }
theorem pdX10_wish : yX10_wish.cls ≠ "java/lang/invoke/MethodHandle" ∧ yX10_wish.cls ≠ "java/lang/invoke/VarHandle" ∧ (parseMethodDescriptor yX10_wish.desc).map (fun d => d.parameters.length) = some 2 := by decide +kernel
abbrev kX10_wish : z_Mt := z_mt yX10_wish.cls cX10_wish 7 (some .int) qX10_wish
def JX10_wish (Q : Int → z_M → Prop) (pc : Nat) (ls st : List z_V) (I : z_M) : Prop := z_R kX10_wish (z_fin (cqI Q)) pc ls st I
def CX10_wish (As : List z_V) (I : z_M) (Q : Int → z_M → Prop) : Prop := z_C yX10_wish cX10_wish 7 (some .int) qX10_wish As I (cqI Q)
theorem eX10_wish {b : Nat} {x0 : Int} {x1 : Int} {I : z_M} {Q : Int → z_M → Prop} (k : JX10_wish Q 0 [aR b, aI x0, aI x1, aU, aU, aU, aU] [] I) : CX10_wish [aR b, aI x0, aI x1] I Q := z_intro (by decide +kernel) 4 (Nat.le_of_ble_eq_true rfl) k
theorem vX10_wish {As : List z_V} {I : z_M} {Q : Int → z_M → Prop} (k : z_CI I → CX10_wish As I Q) : CX10_wish As I Q := fun hC hA => k hC hC hA
theorem lX10_wish {Q : Int → z_M → Prop} {pc : Nat} {ls' ls st : List z_V} {I : z_M} (k : JX10_wish Q pc ls' st I) (h : ∀ (i : Nat) (v : z_V), ls'[i]? = some v → v ≠ aU → ls[i]? = some v) : JX10_wish Q pc ls st I := g_weak h k
def qX10_feast : Room := { frames := 2, cells := 0, slots := 0, locals := 52 }
theorem pdX10_feast : yX10_feast.cls ≠ "java/lang/invoke/MethodHandle" ∧ yX10_feast.cls ≠ "java/lang/invoke/VarHandle" ∧ (parseMethodDescriptor yX10_feast.desc).map (fun d => d.parameters.length) = some 3 := by decide +kernel
abbrev kX10_feast : z_Mt := z_mt yX10_feast.cls cX10_feast 13 (some .int) qX10_feast
def JX10_feast (Q : Int → z_M → Prop) (pc : Nat) (ls st : List z_V) (I : z_M) : Prop := z_R kX10_feast (z_fin (cqI Q)) pc ls st I
def CX10_feast (As : List z_V) (I : z_M) (Q : Int → z_M → Prop) : Prop := z_C yX10_feast cX10_feast 13 (some .int) qX10_feast As I (cqI Q)
theorem eX10_feast {b : Nat} {x0 : Int} {x1 : Int} {x2 : Int} {I : z_M} {Q : Int → z_M → Prop} (k : JX10_feast Q 0 [aR b, aI x0, aI x1, aI x2, aU, aU, aU, aU, aU, aU, aU, aU, aU] [] I) : CX10_feast [aR b, aI x0, aI x1, aI x2] I Q := z_intro (by decide +kernel) 9 (Nat.le_of_ble_eq_true rfl) k
theorem vX10_feast {As : List z_V} {I : z_M} {Q : Int → z_M → Prop} (k : z_CI I → CX10_feast As I Q) : CX10_feast As I Q := fun hC hA => k hC hC hA
theorem lX10_feast {Q : Int → z_M → Prop} {pc : Nat} {ls' ls st : List z_V} {I : z_M} (k : JX10_feast Q pc ls' st I) (h : ∀ (i : Nat) (v : z_V), ls'[i]? = some v → v ≠ aU → ls[i]? = some v) : JX10_feast Q pc ls st I := g_weak h k
def qX10_hours : Room := { frames := 4, cells := 0, slots := 0, locals := 89 }
theorem pdX10_hours : yX10_hours.cls ≠ "java/lang/invoke/MethodHandle" ∧ yX10_hours.cls ≠ "java/lang/invoke/VarHandle" ∧ (parseMethodDescriptor yX10_hours.desc).map (fun d => d.parameters.length) = some 2 := by decide +kernel
abbrev kX10_hours : z_Mt := z_mt yX10_hours.cls cX10_hours 6 (some .int) qX10_hours
def JX10_hours (Q : Int → z_M → Prop) (pc : Nat) (ls st : List z_V) (I : z_M) : Prop := z_R kX10_hours (z_fin (cqI Q)) pc ls st I
def CX10_hours (As : List z_V) (I : z_M) (Q : Int → z_M → Prop) : Prop := z_C yX10_hours cX10_hours 6 (some .int) qX10_hours As I (cqI Q)
theorem eX10_hours {b : Nat} {x0 : Int} {x1 : Int} {I : z_M} {Q : Int → z_M → Prop} (k : JX10_hours Q 0 [aR b, aI x0, aI x1, aU, aU, aU] [] I) : CX10_hours [aR b, aI x0, aI x1] I Q := z_intro (by decide +kernel) 3 (Nat.le_of_ble_eq_true rfl) k
theorem vX10_hours {As : List z_V} {I : z_M} {Q : Int → z_M → Prop} (k : z_CI I → CX10_hours As I Q) : CX10_hours As I Q := fun hC hA => k hC hC hA
theorem lX10_hours {Q : Int → z_M → Prop} {pc : Nat} {ls' ls st : List z_V} {I : z_M} (k : JX10_hours Q pc ls' st I) (h : ∀ (i : Nat) (v : z_V), ls'[i]? = some v → v ≠ aU → ls[i]? = some v) : JX10_hours Q pc ls st I := g_weak h k
def qX10_part : Room := { frames := 1, cells := 0, slots := 0, locals := 21 }
theorem pdX10_part : yX10_part.cls ≠ "java/lang/invoke/MethodHandle" ∧ yX10_part.cls ≠ "java/lang/invoke/VarHandle" ∧ (parseMethodDescriptor yX10_part.desc).map (fun d => d.parameters.length) = some 1 := by decide +kernel
abbrev kX10_part : z_Mt := z_mt yX10_part.cls cX10_part 2 (some .long) qX10_part
def JX10_part (Q : Int → z_M → Prop) (pc : Nat) (ls st : List z_V) (I : z_M) : Prop := z_R kX10_part (z_fin (cqL Q)) pc ls st I
def CX10_part (As : List z_V) (I : z_M) (Q : Int → z_M → Prop) : Prop := z_C yX10_part cX10_part 2 (some .long) qX10_part As I (cqL Q)
theorem eX10_part {b : Nat} {x0 : Int} {I : z_M} {Q : Int → z_M → Prop} (k : JX10_part Q 0 [aR b, aI x0] [] I) : CX10_part [aR b, aI x0] I Q := z_intro (by decide +kernel) 0 (Nat.le_of_ble_eq_true rfl) k
theorem vX10_part {As : List z_V} {I : z_M} {Q : Int → z_M → Prop} (k : z_CI I → CX10_part As I Q) : CX10_part As I Q := fun hC hA => k hC hC hA
theorem lX10_part {Q : Int → z_M → Prop} {pc : Nat} {ls' ls st : List z_V} {I : z_M} (k : JX10_part Q pc ls' st I) (h : ∀ (i : Nat) (v : z_V), ls'[i]? = some v → v ≠ aU → ls[i]? = some v) : JX10_part Q pc ls st I := g_weak h k
def qX10_image : Room := { frames := 3, cells := 0, slots := 0, locals := 60 }
theorem pdX10_image : yX10_image.cls ≠ "java/lang/invoke/MethodHandle" ∧ yX10_image.cls ≠ "java/lang/invoke/VarHandle" ∧ (parseMethodDescriptor yX10_image.desc).map (fun d => d.parameters.length) = some 1 := by decide +kernel
abbrev kX10_image : z_Mt := z_mt yX10_image.cls cX10_image 2 (some .int) qX10_image
def JX10_image (Q : Int → z_M → Prop) (pc : Nat) (ls st : List z_V) (I : z_M) : Prop := z_R kX10_image (z_fin (cqI Q)) pc ls st I
def CX10_image (As : List z_V) (I : z_M) (Q : Int → z_M → Prop) : Prop := z_C yX10_image cX10_image 2 (some .int) qX10_image As I (cqI Q)
theorem eX10_image {b : Nat} {x0 : Int} {I : z_M} {Q : Int → z_M → Prop} (k : JX10_image Q 0 [aR b, aI x0] [] I) : CX10_image [aR b, aI x0] I Q := z_intro (by decide +kernel) 0 (Nat.le_of_ble_eq_true rfl) k
theorem vX10_image {As : List z_V} {I : z_M} {Q : Int → z_M → Prop} (k : z_CI I → CX10_image As I Q) : CX10_image As I Q := fun hC hA => k hC hC hA
theorem lX10_image {Q : Int → z_M → Prop} {pc : Nat} {ls' ls st : List z_V} {I : z_M} (k : JX10_image Q pc ls' st I) (h : ∀ (i : Nat) (v : z_V), ls'[i]? = some v → v ≠ aU → ls[i]? = some v) : JX10_image Q pc ls st I := g_weak h k
def qX10_from : Room := { frames := 3, cells := 0, slots := 0, locals := 60 }
theorem pdX10_from : yX10_from.cls ≠ "java/lang/invoke/MethodHandle" ∧ yX10_from.cls ≠ "java/lang/invoke/VarHandle" ∧ (parseMethodDescriptor yX10_from.desc).map (fun d => d.parameters.length) = some 1 := by decide +kernel
abbrev kX10_from : z_Mt := z_mt yX10_from.cls cX10_from 2 (some .int) qX10_from
def JX10_from (Q : Int → z_M → Prop) (pc : Nat) (ls st : List z_V) (I : z_M) : Prop := z_R kX10_from (z_fin (cqI Q)) pc ls st I
def CX10_from (As : List z_V) (I : z_M) (Q : Int → z_M → Prop) : Prop := z_C yX10_from cX10_from 2 (some .int) qX10_from As I (cqI Q)
theorem eX10_from {b : Nat} {x0 : Int} {I : z_M} {Q : Int → z_M → Prop} (k : JX10_from Q 0 [aR b, aI x0] [] I) : CX10_from [aR b, aI x0] I Q := z_intro (by decide +kernel) 0 (Nat.le_of_ble_eq_true rfl) k
theorem vX10_from {As : List z_V} {I : z_M} {Q : Int → z_M → Prop} (k : z_CI I → CX10_from As I Q) : CX10_from As I Q := fun hC hA => k hC hC hA
theorem lX10_from {Q : Int → z_M → Prop} {pc : Nat} {ls' ls st : List z_V} {I : z_M} (k : JX10_from Q pc ls' st I) (h : ∀ (i : Nat) (v : z_V), ls'[i]? = some v → v ≠ aU → ls[i]? = some v) : JX10_from Q pc ls st I := g_weak h k
def qX10_status : Room := { frames := 1, cells := 0, slots := 0, locals := 20 }
theorem pdX10_status : yX10_status.cls ≠ "java/lang/invoke/MethodHandle" ∧ yX10_status.cls ≠ "java/lang/invoke/VarHandle" ∧ (parseMethodDescriptor yX10_status.desc).map (fun d => d.parameters.length) = some 1 := by decide +kernel
abbrev kX10_status : z_Mt := z_mt yX10_status.cls cX10_status 2 (some .int) qX10_status
def JX10_status (Q : Int → z_M → Prop) (pc : Nat) (ls st : List z_V) (I : z_M) : Prop := z_R kX10_status (z_fin (cqI Q)) pc ls st I
def CX10_status (As : List z_V) (I : z_M) (Q : Int → z_M → Prop) : Prop := z_C yX10_status cX10_status 2 (some .int) qX10_status As I (cqI Q)
theorem eX10_status {b : Nat} {x0 : Int} {I : z_M} {Q : Int → z_M → Prop} (k : JX10_status Q 0 [aR b, aI x0] [] I) : CX10_status [aR b, aI x0] I Q := z_intro (by decide +kernel) 0 (Nat.le_of_ble_eq_true rfl) k
theorem vX10_status {As : List z_V} {I : z_M} {Q : Int → z_M → Prop} (k : z_CI I → CX10_status As I Q) : CX10_status As I Q := fun hC hA => k hC hC hA
theorem lX10_status {Q : Int → z_M → Prop} {pc : Nat} {ls' ls st : List z_V} {I : z_M} (k : JX10_status Q pc ls' st I) (h : ∀ (i : Nat) (v : z_V), ls'[i]? = some v → v ≠ aU → ls[i]? = some v) : JX10_status Q pc ls st I := g_weak h k
def qX10_count : Room := { frames := 2, cells := 0, slots := 0, locals := 43 }
theorem pdX10_count : yX10_count.cls ≠ "java/lang/invoke/MethodHandle" ∧ yX10_count.cls ≠ "java/lang/invoke/VarHandle" ∧ (parseMethodDescriptor yX10_count.desc).map (fun d => d.parameters.length) = some 1 := by decide +kernel
abbrev kX10_count : z_Mt := z_mt yX10_count.cls cX10_count 2 (some .int) qX10_count
def JX10_count (Q : Int → z_M → Prop) (pc : Nat) (ls st : List z_V) (I : z_M) : Prop := z_R kX10_count (z_fin (cqI Q)) pc ls st I
def CX10_count (As : List z_V) (I : z_M) (Q : Int → z_M → Prop) : Prop := z_C yX10_count cX10_count 2 (some .int) qX10_count As I (cqI Q)
theorem eX10_count {b : Nat} {x0 : Int} {I : z_M} {Q : Int → z_M → Prop} (k : JX10_count Q 0 [aR b, aI x0] [] I) : CX10_count [aR b, aI x0] I Q := z_intro (by decide +kernel) 0 (Nat.le_of_ble_eq_true rfl) k
theorem vX10_count {As : List z_V} {I : z_M} {Q : Int → z_M → Prop} (k : z_CI I → CX10_count As I Q) : CX10_count As I Q := fun hC hA => k hC hC hA
theorem lX10_count {Q : Int → z_M → Prop} {pc : Nat} {ls' ls st : List z_V} {I : z_M} (k : JX10_count Q pc ls' st I) (h : ∀ (i : Nat) (v : z_V), ls'[i]? = some v → v ≠ aU → ls[i]? = some v) : JX10_count Q pc ls st I := g_weak h k
def qX10_digest : Room := { frames := 2, cells := 0, slots := 0, locals := 48 }
theorem pdX10_digest : yX10_digest.cls ≠ "java/lang/invoke/MethodHandle" ∧ yX10_digest.cls ≠ "java/lang/invoke/VarHandle" ∧ (parseMethodDescriptor yX10_digest.desc).map (fun d => d.parameters.length) = some 0 := by decide +kernel
abbrev kX10_digest : z_Mt := z_mt yX10_digest.cls cX10_digest 4 (some .long) qX10_digest
def JX10_digest (Q : Int → z_M → Prop) (pc : Nat) (ls st : List z_V) (I : z_M) : Prop := z_R kX10_digest (z_fin (cqL Q)) pc ls st I
def CX10_digest (As : List z_V) (I : z_M) (Q : Int → z_M → Prop) : Prop := z_C yX10_digest cX10_digest 4 (some .long) qX10_digest As I (cqL Q)
theorem eX10_digest {b : Nat} {I : z_M} {Q : Int → z_M → Prop} (k : JX10_digest Q 0 [aR b, aU, aU, aU] [] I) : CX10_digest [aR b] I Q := z_intro (by decide +kernel) 3 (Nat.le_of_ble_eq_true rfl) k
theorem vX10_digest {As : List z_V} {I : z_M} {Q : Int → z_M → Prop} (k : z_CI I → CX10_digest As I Q) : CX10_digest As I Q := fun hC hA => k hC hC hA
theorem lX10_digest {Q : Int → z_M → Prop} {pc : Nat} {ls' ls st : List z_V} {I : z_M} (k : JX10_digest Q pc ls' st I) (h : ∀ (i : Nat) (v : z_V), ls'[i]? = some v → v ≠ aU → ls[i]? = some v) : JX10_digest Q pc ls st I := g_weak h k
def qX10_isUpTo : Room := { frames := 0, cells := 0, slots := 0, locals := 0 }
theorem pdX10_isUpTo : yX10_isUpTo.cls ≠ "java/lang/invoke/MethodHandle" ∧ yX10_isUpTo.cls ≠ "java/lang/invoke/VarHandle" ∧ (parseMethodDescriptor yX10_isUpTo.desc).map (fun d => d.parameters.length) = some 2 := by decide +kernel
abbrev kX10_isUpTo : z_Mt := z_mt yX10_isUpTo.cls cX10_isUpTo 2 (some .boolean) qX10_isUpTo
def JX10_isUpTo (Q : Int → z_M → Prop) (pc : Nat) (ls st : List z_V) (I : z_M) : Prop := z_R kX10_isUpTo (z_fin (cqI Q)) pc ls st I
def CX10_isUpTo (As : List z_V) (I : z_M) (Q : Int → z_M → Prop) : Prop := z_C yX10_isUpTo cX10_isUpTo 2 (some .boolean) qX10_isUpTo As I (cqI Q)
theorem eX10_isUpTo {x0 : Int} {x1 : Int} {I : z_M} {Q : Int → z_M → Prop} (k : JX10_isUpTo Q 0 [aI x0, aI x1] [] I) : CX10_isUpTo [aI x0, aI x1] I Q := z_intro (by decide +kernel) 0 (Nat.le_of_ble_eq_true rfl) k
theorem vX10_isUpTo {As : List z_V} {I : z_M} {Q : Int → z_M → Prop} (k : z_CI I → CX10_isUpTo As I Q) : CX10_isUpTo As I Q := fun hC hA => k hC hC hA
theorem lX10_isUpTo {Q : Int → z_M → Prop} {pc : Nat} {ls' ls st : List z_V} {I : z_M} (k : JX10_isUpTo Q pc ls' st I) (h : ∀ (i : Nat) (v : z_V), ls'[i]? = some v → v ≠ aU → ls[i]? = some v) : JX10_isUpTo Q pc ls st I := g_weak h k
def qX10_isHymn : Room := { frames := 1, cells := 0, slots := 0, locals := 21 }
theorem pdX10_isHymn : yX10_isHymn.cls ≠ "java/lang/invoke/MethodHandle" ∧ yX10_isHymn.cls ≠ "java/lang/invoke/VarHandle" ∧ (parseMethodDescriptor yX10_isHymn.desc).map (fun d => d.parameters.length) = some 1 := by decide +kernel
abbrev kX10_isHymn : z_Mt := z_mt yX10_isHymn.cls cX10_isHymn 1 (some .boolean) qX10_isHymn
def JX10_isHymn (Q : Int → z_M → Prop) (pc : Nat) (ls st : List z_V) (I : z_M) : Prop := z_R kX10_isHymn (z_fin (cqI Q)) pc ls st I
def CX10_isHymn (As : List z_V) (I : z_M) (Q : Int → z_M → Prop) : Prop := z_C yX10_isHymn cX10_isHymn 1 (some .boolean) qX10_isHymn As I (cqI Q)
theorem eX10_isHymn {x0 : Int} {I : z_M} {Q : Int → z_M → Prop} (k : JX10_isHymn Q 0 [aI x0] [] I) : CX10_isHymn [aI x0] I Q := z_intro (by decide +kernel) 0 (Nat.le_of_ble_eq_true rfl) k
theorem vX10_isHymn {As : List z_V} {I : z_M} {Q : Int → z_M → Prop} (k : z_CI I → CX10_isHymn As I Q) : CX10_isHymn As I Q := fun hC hA => k hC hC hA
theorem lX10_isHymn {Q : Int → z_M → Prop} {pc : Nat} {ls' ls st : List z_V} {I : z_M} (k : JX10_isHymn Q pc ls' st I) (h : ∀ (i : Nat) (v : z_V), ls'[i]? = some v → v ≠ aU → ls[i]? = some v) : JX10_isHymn Q pc ls st I := g_weak h k
def qX10_isShift : Room := { frames := 0, cells := 0, slots := 0, locals := 0 }
theorem pdX10_isShift : yX10_isShift.cls ≠ "java/lang/invoke/MethodHandle" ∧ yX10_isShift.cls ≠ "java/lang/invoke/VarHandle" ∧ (parseMethodDescriptor yX10_isShift.desc).map (fun d => d.parameters.length) = some 1 := by decide +kernel
abbrev kX10_isShift : z_Mt := z_mt yX10_isShift.cls cX10_isShift 1 (some .boolean) qX10_isShift
def JX10_isShift (Q : Int → z_M → Prop) (pc : Nat) (ls st : List z_V) (I : z_M) : Prop := z_R kX10_isShift (z_fin (cqI Q)) pc ls st I
def CX10_isShift (As : List z_V) (I : z_M) (Q : Int → z_M → Prop) : Prop := z_C yX10_isShift cX10_isShift 1 (some .boolean) qX10_isShift As I (cqI Q)
theorem eX10_isShift {x0 : Int} {I : z_M} {Q : Int → z_M → Prop} (k : JX10_isShift Q 0 [aI x0] [] I) : CX10_isShift [aI x0] I Q := z_intro (by decide +kernel) 0 (Nat.le_of_ble_eq_true rfl) k
theorem vX10_isShift {As : List z_V} {I : z_M} {Q : Int → z_M → Prop} (k : z_CI I → CX10_isShift As I Q) : CX10_isShift As I Q := fun hC hA => k hC hC hA
theorem lX10_isShift {Q : Int → z_M → Prop} {pc : Nat} {ls' ls st : List z_V} {I : z_M} (k : JX10_isShift Q pc ls' st I) (h : ∀ (i : Nat) (v : z_V), ls'[i]? = some v → v ≠ aU → ls[i]? = some v) : JX10_isShift Q pc ls st I := g_weak h k
def qX10_isPipe : Room := { frames := 1, cells := 0, slots := 0, locals := 21 }
theorem pdX10_isPipe : yX10_isPipe.cls ≠ "java/lang/invoke/MethodHandle" ∧ yX10_isPipe.cls ≠ "java/lang/invoke/VarHandle" ∧ (parseMethodDescriptor yX10_isPipe.desc).map (fun d => d.parameters.length) = some 1 := by decide +kernel
abbrev kX10_isPipe : z_Mt := z_mt yX10_isPipe.cls cX10_isPipe 2 (some .boolean) qX10_isPipe
def JX10_isPipe (Q : Int → z_M → Prop) (pc : Nat) (ls st : List z_V) (I : z_M) : Prop := z_R kX10_isPipe (z_fin (cqI Q)) pc ls st I
def CX10_isPipe (As : List z_V) (I : z_M) (Q : Int → z_M → Prop) : Prop := z_C yX10_isPipe cX10_isPipe 2 (some .boolean) qX10_isPipe As I (cqI Q)
theorem eX10_isPipe {b : Nat} {x0 : Int} {I : z_M} {Q : Int → z_M → Prop} (k : JX10_isPipe Q 0 [aR b, aI x0] [] I) : CX10_isPipe [aR b, aI x0] I Q := z_intro (by decide +kernel) 0 (Nat.le_of_ble_eq_true rfl) k
theorem vX10_isPipe {As : List z_V} {I : z_M} {Q : Int → z_M → Prop} (k : z_CI I → CX10_isPipe As I Q) : CX10_isPipe As I Q := fun hC hA => k hC hC hA
theorem lX10_isPipe {Q : Int → z_M → Prop} {pc : Nat} {ls' ls st : List z_V} {I : z_M} (k : JX10_isPipe Q pc ls' st I) (h : ∀ (i : Nat) (v : z_V), ls'[i]? = some v → v ≠ aU → ls[i]? = some v) : JX10_isPipe Q pc ls st I := g_weak h k
def qX10_isPlace : Room := { frames := 1, cells := 0, slots := 0, locals := 21 }
theorem pdX10_isPlace : yX10_isPlace.cls ≠ "java/lang/invoke/MethodHandle" ∧ yX10_isPlace.cls ≠ "java/lang/invoke/VarHandle" ∧ (parseMethodDescriptor yX10_isPlace.desc).map (fun d => d.parameters.length) = some 1 := by decide +kernel
abbrev kX10_isPlace : z_Mt := z_mt yX10_isPlace.cls cX10_isPlace 2 (some .boolean) qX10_isPlace
def JX10_isPlace (Q : Int → z_M → Prop) (pc : Nat) (ls st : List z_V) (I : z_M) : Prop := z_R kX10_isPlace (z_fin (cqI Q)) pc ls st I
def CX10_isPlace (As : List z_V) (I : z_M) (Q : Int → z_M → Prop) : Prop := z_C yX10_isPlace cX10_isPlace 2 (some .boolean) qX10_isPlace As I (cqI Q)
theorem eX10_isPlace {b : Nat} {x0 : Int} {I : z_M} {Q : Int → z_M → Prop} (k : JX10_isPlace Q 0 [aR b, aI x0] [] I) : CX10_isPlace [aR b, aI x0] I Q := z_intro (by decide +kernel) 0 (Nat.le_of_ble_eq_true rfl) k
theorem vX10_isPlace {As : List z_V} {I : z_M} {Q : Int → z_M → Prop} (k : z_CI I → CX10_isPlace As I Q) : CX10_isPlace As I Q := fun hC hA => k hC hC hA
theorem lX10_isPlace {Q : Int → z_M → Prop} {pc : Nat} {ls' ls st : List z_V} {I : z_M} (k : JX10_isPlace Q pc ls' st I) (h : ∀ (i : Nat) (v : z_V), ls'[i]? = some v → v ≠ aU → ls[i]? = some v) : JX10_isPlace Q pc ls st I := g_weak h k
def qX10_refuseBad : Room := { frames := 0, cells := 0, slots := 0, locals := 0 }
theorem pdX10_refuseBad : yX10_refuseBad.cls ≠ "java/lang/invoke/MethodHandle" ∧ yX10_refuseBad.cls ≠ "java/lang/invoke/VarHandle" ∧ (parseMethodDescriptor yX10_refuseBad.desc).map (fun d => d.parameters.length) = some 0 := by decide +kernel
abbrev kX10_refuseBad : z_Mt := z_mt yX10_refuseBad.cls cX10_refuseBad 1 (some .int) qX10_refuseBad
def JX10_refuseBad (Q : Int → z_M → Prop) (pc : Nat) (ls st : List z_V) (I : z_M) : Prop := z_R kX10_refuseBad (z_fin (cqI Q)) pc ls st I
def CX10_refuseBad (As : List z_V) (I : z_M) (Q : Int → z_M → Prop) : Prop := z_C yX10_refuseBad cX10_refuseBad 1 (some .int) qX10_refuseBad As I (cqI Q)
theorem eX10_refuseBad {b : Nat} {I : z_M} {Q : Int → z_M → Prop} (k : JX10_refuseBad Q 0 [aR b] [] I) : CX10_refuseBad [aR b] I Q := z_intro (by decide +kernel) 0 (Nat.le_of_ble_eq_true rfl) k
theorem vX10_refuseBad {As : List z_V} {I : z_M} {Q : Int → z_M → Prop} (k : z_CI I → CX10_refuseBad As I Q) : CX10_refuseBad As I Q := fun hC hA => k hC hC hA
theorem lX10_refuseBad {Q : Int → z_M → Prop} {pc : Nat} {ls' ls st : List z_V} {I : z_M} (k : JX10_refuseBad Q pc ls' st I) (h : ∀ (i : Nat) (v : z_V), ls'[i]? = some v → v ≠ aU → ls[i]? = some v) : JX10_refuseBad Q pc ls st I := g_weak h k
def qX10_refuseBadTen : Room := { frames := 0, cells := 0, slots := 0, locals := 0 }
theorem pdX10_refuseBadTen : yX10_refuseBadTen.cls ≠ "java/lang/invoke/MethodHandle" ∧ yX10_refuseBadTen.cls ≠ "java/lang/invoke/VarHandle" ∧ (parseMethodDescriptor yX10_refuseBadTen.desc).map (fun d => d.parameters.length) = some 0 := by decide +kernel
abbrev kX10_refuseBadTen : z_Mt := z_mt yX10_refuseBadTen.cls cX10_refuseBadTen 1 (some .int) qX10_refuseBadTen
def JX10_refuseBadTen (Q : Int → z_M → Prop) (pc : Nat) (ls st : List z_V) (I : z_M) : Prop := z_R kX10_refuseBadTen (z_fin (cqI Q)) pc ls st I
def CX10_refuseBadTen (As : List z_V) (I : z_M) (Q : Int → z_M → Prop) : Prop := z_C yX10_refuseBadTen cX10_refuseBadTen 1 (some .int) qX10_refuseBadTen As I (cqI Q)
theorem eX10_refuseBadTen {b : Nat} {I : z_M} {Q : Int → z_M → Prop} (k : JX10_refuseBadTen Q 0 [aR b] [] I) : CX10_refuseBadTen [aR b] I Q := z_intro (by decide +kernel) 0 (Nat.le_of_ble_eq_true rfl) k
theorem vX10_refuseBadTen {As : List z_V} {I : z_M} {Q : Int → z_M → Prop} (k : z_CI I → CX10_refuseBadTen As I Q) : CX10_refuseBadTen As I Q := fun hC hA => k hC hC hA
theorem lX10_refuseBadTen {Q : Int → z_M → Prop} {pc : Nat} {ls' ls st : List z_V} {I : z_M} (k : JX10_refuseBadTen Q pc ls' st I) (h : ∀ (i : Nat) (v : z_V), ls'[i]? = some v → v ≠ aU → ls[i]? = some v) : JX10_refuseBadTen Q pc ls st I := g_weak h k
def qX10_refuseNo : Room := { frames := 0, cells := 0, slots := 0, locals := 0 }
theorem pdX10_refuseNo : yX10_refuseNo.cls ≠ "java/lang/invoke/MethodHandle" ∧ yX10_refuseNo.cls ≠ "java/lang/invoke/VarHandle" ∧ (parseMethodDescriptor yX10_refuseNo.desc).map (fun d => d.parameters.length) = some 0 := by decide +kernel
abbrev kX10_refuseNo : z_Mt := z_mt yX10_refuseNo.cls cX10_refuseNo 1 (some .int) qX10_refuseNo
def JX10_refuseNo (Q : Int → z_M → Prop) (pc : Nat) (ls st : List z_V) (I : z_M) : Prop := z_R kX10_refuseNo (z_fin (cqI Q)) pc ls st I
def CX10_refuseNo (As : List z_V) (I : z_M) (Q : Int → z_M → Prop) : Prop := z_C yX10_refuseNo cX10_refuseNo 1 (some .int) qX10_refuseNo As I (cqI Q)
theorem eX10_refuseNo {b : Nat} {I : z_M} {Q : Int → z_M → Prop} (k : JX10_refuseNo Q 0 [aR b] [] I) : CX10_refuseNo [aR b] I Q := z_intro (by decide +kernel) 0 (Nat.le_of_ble_eq_true rfl) k
theorem vX10_refuseNo {As : List z_V} {I : z_M} {Q : Int → z_M → Prop} (k : z_CI I → CX10_refuseNo As I Q) : CX10_refuseNo As I Q := fun hC hA => k hC hC hA
theorem lX10_refuseNo {Q : Int → z_M → Prop} {pc : Nat} {ls' ls st : List z_V} {I : z_M} (k : JX10_refuseNo Q pc ls' st I) (h : ∀ (i : Nat) (v : z_V), ls'[i]? = some v → v ≠ aU → ls[i]? = some v) : JX10_refuseNo Q pc ls st I := g_weak h k
def qX10_refuseFull : Room := { frames := 0, cells := 0, slots := 0, locals := 0 }
theorem pdX10_refuseFull : yX10_refuseFull.cls ≠ "java/lang/invoke/MethodHandle" ∧ yX10_refuseFull.cls ≠ "java/lang/invoke/VarHandle" ∧ (parseMethodDescriptor yX10_refuseFull.desc).map (fun d => d.parameters.length) = some 0 := by decide +kernel
abbrev kX10_refuseFull : z_Mt := z_mt yX10_refuseFull.cls cX10_refuseFull 1 (some .int) qX10_refuseFull
def JX10_refuseFull (Q : Int → z_M → Prop) (pc : Nat) (ls st : List z_V) (I : z_M) : Prop := z_R kX10_refuseFull (z_fin (cqI Q)) pc ls st I
def CX10_refuseFull (As : List z_V) (I : z_M) (Q : Int → z_M → Prop) : Prop := z_C yX10_refuseFull cX10_refuseFull 1 (some .int) qX10_refuseFull As I (cqI Q)
theorem eX10_refuseFull {b : Nat} {I : z_M} {Q : Int → z_M → Prop} (k : JX10_refuseFull Q 0 [aR b] [] I) : CX10_refuseFull [aR b] I Q := z_intro (by decide +kernel) 0 (Nat.le_of_ble_eq_true rfl) k
theorem vX10_refuseFull {As : List z_V} {I : z_M} {Q : Int → z_M → Prop} (k : z_CI I → CX10_refuseFull As I Q) : CX10_refuseFull As I Q := fun hC hA => k hC hC hA
theorem lX10_refuseFull {Q : Int → z_M → Prop} {pc : Nat} {ls' ls st : List z_V} {I : z_M} (k : JX10_refuseFull Q pc ls' st I) (h : ∀ (i : Nat) (v : z_V), ls'[i]? = some v → v ≠ aU → ls[i]? = some v) : JX10_refuseFull Q pc ls st I := g_weak h k
def qX10_tryHours : Room := { frames := 4, cells := 0, slots := 0, locals := 89 }
theorem pdX10_tryHours : yX10_tryHours.cls ≠ "java/lang/invoke/MethodHandle" ∧ yX10_tryHours.cls ≠ "java/lang/invoke/VarHandle" ∧ (parseMethodDescriptor yX10_tryHours.desc).map (fun d => d.parameters.length) = some 1 := by decide +kernel
abbrev kX10_tryHours : z_Mt := z_mt yX10_tryHours.cls cX10_tryHours 3 none qX10_tryHours
def JX10_tryHours (Q : z_M → Prop) (pc : Nat) (ls st : List z_V) (I : z_M) : Prop := z_R kX10_tryHours (z_fin (cqV Q)) pc ls st I
def CX10_tryHours (As : List z_V) (I : z_M) (Q : z_M → Prop) : Prop := z_C yX10_tryHours cX10_tryHours 3 none qX10_tryHours As I (cqV Q)
theorem eX10_tryHours {b : Nat} {x0 : Int} {I : z_M} {Q : z_M → Prop} (k : JX10_tryHours Q 0 [aR b, aI x0, aU] [] I) : CX10_tryHours [aR b, aI x0] I Q := z_intro (by decide +kernel) 1 (Nat.le_of_ble_eq_true rfl) k
theorem vX10_tryHours {As : List z_V} {I : z_M} {Q : z_M → Prop} (k : z_CI I → CX10_tryHours As I Q) : CX10_tryHours As I Q := fun hC hA => k hC hC hA
theorem lX10_tryHours {Q : z_M → Prop} {pc : Nat} {ls' ls st : List z_V} {I : z_M} (k : JX10_tryHours Q pc ls' st I) (h : ∀ (i : Nat) (v : z_V), ls'[i]? = some v → v ≠ aU → ls[i]? = some v) : JX10_tryHours Q pc ls st I := g_weak h k
def qX10_kindsThatMayBe : Room := { frames := 5, cells := 0, slots := 0, locals := 111 }
theorem pdX10_kindsThatMayBe : yX10_kindsThatMayBe.cls ≠ "java/lang/invoke/MethodHandle" ∧ yX10_kindsThatMayBe.cls ≠ "java/lang/invoke/VarHandle" ∧ (parseMethodDescriptor yX10_kindsThatMayBe.desc).map (fun d => d.parameters.length) = some 1 := by decide +kernel
abbrev kX10_kindsThatMayBe : z_Mt := z_mt yX10_kindsThatMayBe.cls cX10_kindsThatMayBe 4 (some .int) qX10_kindsThatMayBe
def JX10_kindsThatMayBe (Q : Int → z_M → Prop) (pc : Nat) (ls st : List z_V) (I : z_M) : Prop := z_R kX10_kindsThatMayBe (z_fin (cqI Q)) pc ls st I
def CX10_kindsThatMayBe (As : List z_V) (I : z_M) (Q : Int → z_M → Prop) : Prop := z_C yX10_kindsThatMayBe cX10_kindsThatMayBe 4 (some .int) qX10_kindsThatMayBe As I (cqI Q)
theorem eX10_kindsThatMayBe {b : Nat} {x0 : Int} {I : z_M} {Q : Int → z_M → Prop} (k : JX10_kindsThatMayBe Q 0 [aR b, aI x0, aU, aU] [] I) : CX10_kindsThatMayBe [aR b, aI x0] I Q := z_intro (by decide +kernel) 2 (Nat.le_of_ble_eq_true rfl) k
theorem vX10_kindsThatMayBe {As : List z_V} {I : z_M} {Q : Int → z_M → Prop} (k : z_CI I → CX10_kindsThatMayBe As I Q) : CX10_kindsThatMayBe As I Q := fun hC hA => k hC hC hA
theorem lX10_kindsThatMayBe {Q : Int → z_M → Prop} {pc : Nat} {ls' ls st : List z_V} {I : z_M} (k : JX10_kindsThatMayBe Q pc ls' st I) (h : ∀ (i : Nat) (v : z_V), ls'[i]? = some v → v ≠ aU → ls[i]? = some v) : JX10_kindsThatMayBe Q pc ls st I := g_weak h k
def qX10_areReadingsSo : Room := { frames := 4, cells := 0, slots := 0, locals := 89 }
theorem pdX10_areReadingsSo : yX10_areReadingsSo.cls ≠ "java/lang/invoke/MethodHandle" ∧ yX10_areReadingsSo.cls ≠ "java/lang/invoke/VarHandle" ∧ (parseMethodDescriptor yX10_areReadingsSo.desc).map (fun d => d.parameters.length) = some 0 := by decide +kernel
abbrev kX10_areReadingsSo : z_Mt := z_mt yX10_areReadingsSo.cls cX10_areReadingsSo 3 (some .boolean) qX10_areReadingsSo
def JX10_areReadingsSo (Q : Int → z_M → Prop) (pc : Nat) (ls st : List z_V) (I : z_M) : Prop := z_R kX10_areReadingsSo (z_fin (cqI Q)) pc ls st I
def CX10_areReadingsSo (As : List z_V) (I : z_M) (Q : Int → z_M → Prop) : Prop := z_C yX10_areReadingsSo cX10_areReadingsSo 3 (some .boolean) qX10_areReadingsSo As I (cqI Q)
theorem eX10_areReadingsSo {b : Nat} {I : z_M} {Q : Int → z_M → Prop} (k : JX10_areReadingsSo Q 0 [aR b, aU, aU] [] I) : CX10_areReadingsSo [aR b] I Q := z_intro (by decide +kernel) 2 (Nat.le_of_ble_eq_true rfl) k
theorem vX10_areReadingsSo {As : List z_V} {I : z_M} {Q : Int → z_M → Prop} (k : z_CI I → CX10_areReadingsSo As I Q) : CX10_areReadingsSo As I Q := fun hC hA => k hC hC hA
theorem lX10_areReadingsSo {Q : Int → z_M → Prop} {pc : Nat} {ls' ls st : List z_V} {I : z_M} (k : JX10_areReadingsSo Q pc ls' st I) (h : ∀ (i : Nat) (v : z_V), ls'[i]? = some v → v ≠ aU → ls[i]? = some v) : JX10_areReadingsSo Q pc ls st I := g_weak h k
def qX10_tryKinds : Room := { frames := 5, cells := 0, slots := 0, locals := 111 }
theorem pdX10_tryKinds : yX10_tryKinds.cls ≠ "java/lang/invoke/MethodHandle" ∧ yX10_tryKinds.cls ≠ "java/lang/invoke/VarHandle" ∧ (parseMethodDescriptor yX10_tryKinds.desc).map (fun d => d.parameters.length) = some 2 := by decide +kernel
abbrev kX10_tryKinds : z_Mt := z_mt yX10_tryKinds.cls cX10_tryKinds 4 none qX10_tryKinds
def JX10_tryKinds (Q : z_M → Prop) (pc : Nat) (ls st : List z_V) (I : z_M) : Prop := z_R kX10_tryKinds (z_fin (cqV Q)) pc ls st I
def CX10_tryKinds (As : List z_V) (I : z_M) (Q : z_M → Prop) : Prop := z_C yX10_tryKinds cX10_tryKinds 4 none qX10_tryKinds As I (cqV Q)
theorem eX10_tryKinds {b : Nat} {x0 : Int} {x1 : Int} {I : z_M} {Q : z_M → Prop} (k : JX10_tryKinds Q 0 [aR b, aI x0, aI x1, aU] [] I) : CX10_tryKinds [aR b, aI x0, aI x1] I Q := z_intro (by decide +kernel) 1 (Nat.le_of_ble_eq_true rfl) k
theorem vX10_tryKinds {As : List z_V} {I : z_M} {Q : z_M → Prop} (k : z_CI I → CX10_tryKinds As I Q) : CX10_tryKinds As I Q := fun hC hA => k hC hC hA
theorem lX10_tryKinds {Q : z_M → Prop} {pc : Nat} {ls' ls st : List z_V} {I : z_M} (k : JX10_tryKinds Q pc ls' st I) (h : ∀ (i : Nat) (v : z_V), ls'[i]? = some v → v ≠ aU → ls[i]? = some v) : JX10_tryKinds Q pc ls st I := g_weak h k
def qX10_greaterPart : Room := { frames := 1, cells := 0, slots := 0, locals := 20 }
theorem pdX10_greaterPart : yX10_greaterPart.cls ≠ "java/lang/invoke/MethodHandle" ∧ yX10_greaterPart.cls ≠ "java/lang/invoke/VarHandle" ∧ (parseMethodDescriptor yX10_greaterPart.desc).map (fun d => d.parameters.length) = some 2 := by decide +kernel
abbrev kX10_greaterPart : z_Mt := z_mt yX10_greaterPart.cls cX10_greaterPart 5 (some .int) qX10_greaterPart
def JX10_greaterPart (Q : Int → z_M → Prop) (pc : Nat) (ls st : List z_V) (I : z_M) : Prop := z_R kX10_greaterPart (z_fin (cqI Q)) pc ls st I
def CX10_greaterPart (As : List z_V) (I : z_M) (Q : Int → z_M → Prop) : Prop := z_C yX10_greaterPart cX10_greaterPart 5 (some .int) qX10_greaterPart As I (cqI Q)
theorem eX10_greaterPart {b : Nat} {x0 : Int} {x1 : Int} {I : z_M} {Q : Int → z_M → Prop} (k : JX10_greaterPart Q 0 [aR b, aI x0, aI x1, aU, aU] [] I) : CX10_greaterPart [aR b, aI x0, aI x1] I Q := z_intro (by decide +kernel) 2 (Nat.le_of_ble_eq_true rfl) k
theorem vX10_greaterPart {As : List z_V} {I : z_M} {Q : Int → z_M → Prop} (k : z_CI I → CX10_greaterPart As I Q) : CX10_greaterPart As I Q := fun hC hA => k hC hC hA
theorem lX10_greaterPart {Q : Int → z_M → Prop} {pc : Nat} {ls' ls st : List z_V} {I : z_M} (k : JX10_greaterPart Q pc ls' st I) (h : ∀ (i : Nat) (v : z_V), ls'[i]? = some v → v ≠ aU → ls[i]? = some v) : JX10_greaterPart Q pc ls st I := g_weak h k
def qX10_setFraction : Room := { frames := 1, cells := 0, slots := 0, locals := 26 }
theorem pdX10_setFraction : yX10_setFraction.cls ≠ "java/lang/invoke/MethodHandle" ∧ yX10_setFraction.cls ≠ "java/lang/invoke/VarHandle" ∧ (parseMethodDescriptor yX10_setFraction.desc).map (fun d => d.parameters.length) = some 2 := by decide +kernel
abbrev kX10_setFraction : z_Mt := z_mt yX10_setFraction.cls cX10_setFraction 7 none qX10_setFraction
def JX10_setFraction (Q : z_M → Prop) (pc : Nat) (ls st : List z_V) (I : z_M) : Prop := z_R kX10_setFraction (z_fin (cqV Q)) pc ls st I
def CX10_setFraction (As : List z_V) (I : z_M) (Q : z_M → Prop) : Prop := z_C yX10_setFraction cX10_setFraction 7 none qX10_setFraction As I (cqV Q)
theorem eX10_setFraction {b : Nat} {x0 : Int} {x1 : Int} {I : z_M} {Q : z_M → Prop} (k : JX10_setFraction Q 0 [aR b, aL x0, aU, aL x1, aU, aU, aU] [] I) : CX10_setFraction [aR b, aL x0, aL x1] I Q := z_intro (by decide +kernel) 2 (Nat.le_of_ble_eq_true rfl) k
theorem vX10_setFraction {As : List z_V} {I : z_M} {Q : z_M → Prop} (k : z_CI I → CX10_setFraction As I Q) : CX10_setFraction As I Q := fun hC hA => k hC hC hA
theorem lX10_setFraction {Q : z_M → Prop} {pc : Nat} {ls' ls st : List z_V} {I : z_M} (k : JX10_setFraction Q pc ls' st I) (h : ∀ (i : Nat) (v : z_V), ls'[i]? = some v → v ≠ aU → ls[i]? = some v) : JX10_setFraction Q pc ls st I := g_weak h k
def qX10_greatestDivisor : Room := { frames := 0, cells := 0, slots := 0, locals := 0 }
theorem pdX10_greatestDivisor : yX10_greatestDivisor.cls ≠ "java/lang/invoke/MethodHandle" ∧ yX10_greatestDivisor.cls ≠ "java/lang/invoke/VarHandle" ∧ (parseMethodDescriptor yX10_greatestDivisor.desc).map (fun d => d.parameters.length) = some 2 := by decide +kernel
abbrev kX10_greatestDivisor : z_Mt := z_mt yX10_greatestDivisor.cls cX10_greatestDivisor 7 (some .long) qX10_greatestDivisor
def JX10_greatestDivisor (Q : Int → z_M → Prop) (pc : Nat) (ls st : List z_V) (I : z_M) : Prop := z_R kX10_greatestDivisor (z_fin (cqL Q)) pc ls st I
def CX10_greatestDivisor (As : List z_V) (I : z_M) (Q : Int → z_M → Prop) : Prop := z_C yX10_greatestDivisor cX10_greatestDivisor 7 (some .long) qX10_greatestDivisor As I (cqL Q)
theorem eX10_greatestDivisor {x0 : Int} {x1 : Int} {I : z_M} {Q : Int → z_M → Prop} (k : JX10_greatestDivisor Q 0 [aL x0, aU, aL x1, aU, aU, aU, aU] [] I) : CX10_greatestDivisor [aL x0, aL x1] I Q := z_intro (by decide +kernel) 3 (Nat.le_of_ble_eq_true rfl) k
theorem vX10_greatestDivisor {As : List z_V} {I : z_M} {Q : Int → z_M → Prop} (k : z_CI I → CX10_greatestDivisor As I Q) : CX10_greatestDivisor As I Q := fun hC hA => k hC hC hA
theorem lX10_greatestDivisor {Q : Int → z_M → Prop} {pc : Nat} {ls' ls st : List z_V} {I : z_M} (k : JX10_greatestDivisor Q pc ls' st I) (h : ∀ (i : Nat) (v : z_V), ls'[i]? = some v → v ≠ aU → ls[i]? = some v) : JX10_greatestDivisor Q pc ls st I := g_weak h k
def qX10_power : Room := { frames := 0, cells := 0, slots := 0, locals := 0 }
theorem pdX10_power : yX10_power.cls ≠ "java/lang/invoke/MethodHandle" ∧ yX10_power.cls ≠ "java/lang/invoke/VarHandle" ∧ (parseMethodDescriptor yX10_power.desc).map (fun d => d.parameters.length) = some 2 := by decide +kernel
abbrev kX10_power : z_Mt := z_mt yX10_power.cls cX10_power 6 (some .long) qX10_power
def JX10_power (Q : Int → z_M → Prop) (pc : Nat) (ls st : List z_V) (I : z_M) : Prop := z_R kX10_power (z_fin (cqL Q)) pc ls st I
def CX10_power (As : List z_V) (I : z_M) (Q : Int → z_M → Prop) : Prop := z_C yX10_power cX10_power 6 (some .long) qX10_power As I (cqL Q)
theorem eX10_power {x0 : Int} {x1 : Int} {I : z_M} {Q : Int → z_M → Prop} (k : JX10_power Q 0 [aL x0, aU, aI x1, aU, aU, aU] [] I) : CX10_power [aL x0, aI x1] I Q := z_intro (by decide +kernel) 3 (Nat.le_of_ble_eq_true rfl) k
theorem vX10_power {As : List z_V} {I : z_M} {Q : Int → z_M → Prop} (k : z_CI I → CX10_power As I Q) : CX10_power As I Q := fun hC hA => k hC hC hA
theorem lX10_power {Q : Int → z_M → Prop} {pc : Nat} {ls' ls st : List z_V} {I : z_M} (k : JX10_power Q pc ls' st I) (h : ∀ (i : Nat) (v : z_V), ls'[i]? = some v → v ≠ aU → ls[i]? = some v) : JX10_power Q pc ls st I := g_weak h k
def qX10_isFewer : Room := { frames := 1, cells := 0, slots := 0, locals := 20 }
theorem pdX10_isFewer : yX10_isFewer.cls ≠ "java/lang/invoke/MethodHandle" ∧ yX10_isFewer.cls ≠ "java/lang/invoke/VarHandle" ∧ (parseMethodDescriptor yX10_isFewer.desc).map (fun d => d.parameters.length) = some 2 := by decide +kernel
abbrev kX10_isFewer : z_Mt := z_mt yX10_isFewer.cls cX10_isFewer 4 (some .boolean) qX10_isFewer
def JX10_isFewer (Q : Int → z_M → Prop) (pc : Nat) (ls st : List z_V) (I : z_M) : Prop := z_R kX10_isFewer (z_fin (cqI Q)) pc ls st I
def CX10_isFewer (As : List z_V) (I : z_M) (Q : Int → z_M → Prop) : Prop := z_C yX10_isFewer cX10_isFewer 4 (some .boolean) qX10_isFewer As I (cqI Q)
theorem eX10_isFewer {x0 : Int} {x1 : Int} {I : z_M} {Q : Int → z_M → Prop} (k : JX10_isFewer Q 0 [aI x0, aI x1, aU, aU] [] I) : CX10_isFewer [aI x0, aI x1] I Q := z_intro (by decide +kernel) 2 (Nat.le_of_ble_eq_true rfl) k
theorem vX10_isFewer {As : List z_V} {I : z_M} {Q : Int → z_M → Prop} (k : z_CI I → CX10_isFewer As I Q) : CX10_isFewer As I Q := fun hC hA => k hC hC hA
theorem lX10_isFewer {Q : Int → z_M → Prop} {pc : Nat} {ls' ls st : List z_V} {I : z_M} (k : JX10_isFewer Q pc ls' st I) (h : ∀ (i : Nat) (v : z_V), ls'[i]? = some v → v ≠ aU → ls[i]? = some v) : JX10_isFewer Q pc ls st I := g_weak h k
def qX10_hasNote : Room := { frames := 0, cells := 0, slots := 0, locals := 0 }
theorem pdX10_hasNote : yX10_hasNote.cls ≠ "java/lang/invoke/MethodHandle" ∧ yX10_hasNote.cls ≠ "java/lang/invoke/VarHandle" ∧ (parseMethodDescriptor yX10_hasNote.desc).map (fun d => d.parameters.length) = some 2 := by decide +kernel
abbrev kX10_hasNote : z_Mt := z_mt yX10_hasNote.cls cX10_hasNote 3 (some .boolean) qX10_hasNote
def JX10_hasNote (Q : Int → z_M → Prop) (pc : Nat) (ls st : List z_V) (I : z_M) : Prop := z_R kX10_hasNote (z_fin (cqI Q)) pc ls st I
def CX10_hasNote (As : List z_V) (I : z_M) (Q : Int → z_M → Prop) : Prop := z_C yX10_hasNote cX10_hasNote 3 (some .boolean) qX10_hasNote As I (cqI Q)
theorem eX10_hasNote {x0 : Int} {x1 : Int} {I : z_M} {Q : Int → z_M → Prop} (k : JX10_hasNote Q 0 [aL x0, aU, aI x1] [] I) : CX10_hasNote [aL x0, aI x1] I Q := z_intro (by decide +kernel) 0 (Nat.le_of_ble_eq_true rfl) k
theorem vX10_hasNote {As : List z_V} {I : z_M} {Q : Int → z_M → Prop} (k : z_CI I → CX10_hasNote As I Q) : CX10_hasNote As I Q := fun hC hA => k hC hC hA
theorem lX10_hasNote {Q : Int → z_M → Prop} {pc : Nat} {ls' ls st : List z_V} {I : z_M} (k : JX10_hasNote Q pc ls' st I) (h : ∀ (i : Nat) (v : z_V), ls'[i]? = some v → v ≠ aU → ls[i]? = some v) : JX10_hasNote Q pc ls st I := g_weak h k
def qX10_howMany : Room := { frames := 1, cells := 0, slots := 0, locals := 22 }
theorem pdX10_howMany : yX10_howMany.cls ≠ "java/lang/invoke/MethodHandle" ∧ yX10_howMany.cls ≠ "java/lang/invoke/VarHandle" ∧ (parseMethodDescriptor yX10_howMany.desc).map (fun d => d.parameters.length) = some 1 := by decide +kernel
abbrev kX10_howMany : z_Mt := z_mt yX10_howMany.cls cX10_howMany 2 (some .int) qX10_howMany
def JX10_howMany (Q : Int → z_M → Prop) (pc : Nat) (ls st : List z_V) (I : z_M) : Prop := z_R kX10_howMany (z_fin (cqI Q)) pc ls st I
def CX10_howMany (As : List z_V) (I : z_M) (Q : Int → z_M → Prop) : Prop := z_C yX10_howMany cX10_howMany 2 (some .int) qX10_howMany As I (cqI Q)
theorem eX10_howMany {b : Nat} {x0 : Int} {I : z_M} {Q : Int → z_M → Prop} (k : JX10_howMany Q 0 [aR b, aI x0] [] I) : CX10_howMany [aR b, aI x0] I Q := z_intro (by decide +kernel) 0 (Nat.le_of_ble_eq_true rfl) k
theorem vX10_howMany {As : List z_V} {I : z_M} {Q : Int → z_M → Prop} (k : z_CI I → CX10_howMany As I Q) : CX10_howMany As I Q := fun hC hA => k hC hC hA
theorem lX10_howMany {Q : Int → z_M → Prop} {pc : Nat} {ls' ls st : List z_V} {I : z_M} (k : JX10_howMany Q pc ls' st I) (h : ∀ (i : Nat) (v : z_V), ls'[i]? = some v → v ≠ aU → ls[i]? = some v) : JX10_howMany Q pc ls st I := g_weak h k
def qX11_in : Room := { frames := 0, cells := 0, slots := 0, locals := 0 }
theorem pdX11_in : yX11_in.cls ≠ "java/lang/invoke/MethodHandle" ∧ yX11_in.cls ≠ "java/lang/invoke/VarHandle" ∧ (parseMethodDescriptor yX11_in.desc).map (fun d => d.parameters.length) = some 3 := by decide +kernel
abbrev kX11_in : z_Mt := z_mt yX11_in.cls cX11_in 6 (some .boolean) qX11_in
def JX11_in (Q : Int → z_M → Prop) (pc : Nat) (ls st : List z_V) (I : z_M) : Prop := z_R kX11_in (z_fin (cqI Q)) pc ls st I
def CX11_in (As : List z_V) (I : z_M) (Q : Int → z_M → Prop) : Prop := z_C yX11_in cX11_in 6 (some .boolean) qX11_in As I (cqI Q)
theorem eX11_in {x0 : Int} {x1 : Int} {x2 : Int} {I : z_M} {Q : Int → z_M → Prop} (k : JX11_in Q 0 [aL x0, aU, aL x1, aU, aL x2, aU] [] I) : CX11_in [aL x0, aL x1, aL x2] I Q := z_intro (by decide +kernel) 0 (Nat.le_of_ble_eq_true rfl) k
theorem vX11_in {As : List z_V} {I : z_M} {Q : Int → z_M → Prop} (k : z_CI I → CX11_in As I Q) : CX11_in As I Q := fun hC hA => k hC hC hA
theorem lX11_in {Q : Int → z_M → Prop} {pc : Nat} {ls' ls st : List z_V} {I : z_M} (k : JX11_in Q pc ls' st I) (h : ∀ (i : Nat) (v : z_V), ls'[i]? = some v → v ≠ aU → ls[i]? = some v) : JX11_in Q pc ls st I := g_weak h k
def qX11_bad : Room := { frames := 0, cells := 0, slots := 0, locals := 0 }
theorem pdX11_bad : yX11_bad.cls ≠ "java/lang/invoke/MethodHandle" ∧ yX11_bad.cls ≠ "java/lang/invoke/VarHandle" ∧ (parseMethodDescriptor yX11_bad.desc).map (fun d => d.parameters.length) = some 1 := by decide +kernel
abbrev kX11_bad : z_Mt := z_mt yX11_bad.cls cX11_bad 2 (some .int) qX11_bad
def JX11_bad (Q : Int → z_M → Prop) (pc : Nat) (ls st : List z_V) (I : z_M) : Prop := z_R kX11_bad (z_fin (cqI Q)) pc ls st I
def CX11_bad (As : List z_V) (I : z_M) (Q : Int → z_M → Prop) : Prop := z_C yX11_bad cX11_bad 2 (some .int) qX11_bad As I (cqI Q)
theorem eX11_bad {b : Nat} {x0 : Int} {I : z_M} {Q : Int → z_M → Prop} (k : JX11_bad Q 0 [aR b, aI x0] [] I) : CX11_bad [aR b, aI x0] I Q := z_intro (by decide +kernel) 0 (Nat.le_of_ble_eq_true rfl) k
theorem vX11_bad {As : List z_V} {I : z_M} {Q : Int → z_M → Prop} (k : z_CI I → CX11_bad As I Q) : CX11_bad As I Q := fun hC hA => k hC hC hA
theorem lX11_bad {Q : Int → z_M → Prop} {pc : Nat} {ls' ls st : List z_V} {I : z_M} (k : JX11_bad Q pc ls' st I) (h : ∀ (i : Nat) (v : z_V), ls'[i]? = some v → v ≠ aU → ls[i]? = some v) : JX11_bad Q pc ls st I := g_weak h k
def qX11_no : Room := { frames := 0, cells := 0, slots := 0, locals := 0 }
theorem pdX11_no : yX11_no.cls ≠ "java/lang/invoke/MethodHandle" ∧ yX11_no.cls ≠ "java/lang/invoke/VarHandle" ∧ (parseMethodDescriptor yX11_no.desc).map (fun d => d.parameters.length) = some 0 := by decide +kernel
abbrev kX11_no : z_Mt := z_mt yX11_no.cls cX11_no 1 (some .int) qX11_no
def JX11_no (Q : Int → z_M → Prop) (pc : Nat) (ls st : List z_V) (I : z_M) : Prop := z_R kX11_no (z_fin (cqI Q)) pc ls st I
def CX11_no (As : List z_V) (I : z_M) (Q : Int → z_M → Prop) : Prop := z_C yX11_no cX11_no 1 (some .int) qX11_no As I (cqI Q)
theorem eX11_no {b : Nat} {I : z_M} {Q : Int → z_M → Prop} (k : JX11_no Q 0 [aR b] [] I) : CX11_no [aR b] I Q := z_intro (by decide +kernel) 0 (Nat.le_of_ble_eq_true rfl) k
theorem vX11_no {As : List z_V} {I : z_M} {Q : Int → z_M → Prop} (k : z_CI I → CX11_no As I Q) : CX11_no As I Q := fun hC hA => k hC hC hA
theorem lX11_no {Q : Int → z_M → Prop} {pc : Nat} {ls' ls st : List z_V} {I : z_M} (k : JX11_no Q pc ls' st I) (h : ∀ (i : Nat) (v : z_V), ls'[i]? = some v → v ≠ aU → ls[i]? = some v) : JX11_no Q pc ls st I := g_weak h k
def qX11_full : Room := { frames := 0, cells := 0, slots := 0, locals := 0 }
theorem pdX11_full : yX11_full.cls ≠ "java/lang/invoke/MethodHandle" ∧ yX11_full.cls ≠ "java/lang/invoke/VarHandle" ∧ (parseMethodDescriptor yX11_full.desc).map (fun d => d.parameters.length) = some 0 := by decide +kernel
abbrev kX11_full : z_Mt := z_mt yX11_full.cls cX11_full 1 (some .int) qX11_full
def JX11_full (Q : Int → z_M → Prop) (pc : Nat) (ls st : List z_V) (I : z_M) : Prop := z_R kX11_full (z_fin (cqI Q)) pc ls st I
def CX11_full (As : List z_V) (I : z_M) (Q : Int → z_M → Prop) : Prop := z_C yX11_full cX11_full 1 (some .int) qX11_full As I (cqI Q)
theorem eX11_full {b : Nat} {I : z_M} {Q : Int → z_M → Prop} (k : JX11_full Q 0 [aR b] [] I) : CX11_full [aR b] I Q := z_intro (by decide +kernel) 0 (Nat.le_of_ble_eq_true rfl) k
theorem vX11_full {As : List z_V} {I : z_M} {Q : Int → z_M → Prop} (k : z_CI I → CX11_full As I Q) : CX11_full As I Q := fun hC hA => k hC hC hA
theorem lX11_full {Q : Int → z_M → Prop} {pc : Nat} {ls' ls st : List z_V} {I : z_M} (k : JX11_full Q pc ls' st I) (h : ∀ (i : Nat) (v : z_V), ls'[i]? = some v → v ≠ aU → ls[i]? = some v) : JX11_full Q pc ls st I := g_weak h k
def qX11_bits : Room := { frames := 0, cells := 0, slots := 0, locals := 0 }
theorem pdX11_bits : yX11_bits.cls ≠ "java/lang/invoke/MethodHandle" ∧ yX11_bits.cls ≠ "java/lang/invoke/VarHandle" ∧ (parseMethodDescriptor yX11_bits.desc).map (fun d => d.parameters.length) = some 1 := by decide +kernel
abbrev kX11_bits : z_Mt := z_mt yX11_bits.cls cX11_bits 3 (some .int) qX11_bits
def JX11_bits (Q : Int → z_M → Prop) (pc : Nat) (ls st : List z_V) (I : z_M) : Prop := z_R kX11_bits (z_fin (cqI Q)) pc ls st I
def CX11_bits (As : List z_V) (I : z_M) (Q : Int → z_M → Prop) : Prop := z_C yX11_bits cX11_bits 3 (some .int) qX11_bits As I (cqI Q)
theorem eX11_bits {x0 : Int} {I : z_M} {Q : Int → z_M → Prop} (k : JX11_bits Q 0 [aI x0, aU, aU] [] I) : CX11_bits [aI x0] I Q := z_intro (by decide +kernel) 2 (Nat.le_of_ble_eq_true rfl) k
theorem vX11_bits {As : List z_V} {I : z_M} {Q : Int → z_M → Prop} (k : z_CI I → CX11_bits As I Q) : CX11_bits As I Q := fun hC hA => k hC hC hA
theorem lX11_bits {Q : Int → z_M → Prop} {pc : Nat} {ls' ls st : List z_V} {I : z_M} (k : JX11_bits Q pc ls' st I) (h : ∀ (i : Nat) (v : z_V), ls'[i]? = some v → v ≠ aU → ls[i]? = some v) : JX11_bits Q pc ls st I := g_weak h k
def qX11_begin : Room := { frames := 0, cells := 0, slots := 0, locals := 0 }
theorem pdX11_begin : yX11_begin.cls ≠ "java/lang/invoke/MethodHandle" ∧ yX11_begin.cls ≠ "java/lang/invoke/VarHandle" ∧ (parseMethodDescriptor yX11_begin.desc).map (fun d => d.parameters.length) = some 1 := by decide +kernel
abbrev kX11_begin : z_Mt := z_mt yX11_begin.cls cX11_begin 2 none qX11_begin
def JX11_begin (Q : z_M → Prop) (pc : Nat) (ls st : List z_V) (I : z_M) : Prop := z_R kX11_begin (z_fin (cqV Q)) pc ls st I
def CX11_begin (As : List z_V) (I : z_M) (Q : z_M → Prop) : Prop := z_C yX11_begin cX11_begin 2 none qX11_begin As I (cqV Q)
theorem eX11_begin {x0 : Nat} {I : z_M} {Q : z_M → Prop} (k : JX11_begin Q 0 [aR x0, aU] [] I) : CX11_begin [aR x0] I Q := z_intro (by decide +kernel) 1 (Nat.le_of_ble_eq_true rfl) k
theorem vX11_begin {As : List z_V} {I : z_M} {Q : z_M → Prop} (k : z_CI I → CX11_begin As I Q) : CX11_begin As I Q := fun hC hA => k hC hC hA
theorem lX11_begin {Q : z_M → Prop} {pc : Nat} {ls' ls st : List z_V} {I : z_M} (k : JX11_begin Q pc ls' st I) (h : ∀ (i : Nat) (v : z_V), ls'[i]? = some v → v ≠ aU → ls[i]? = some v) : JX11_begin Q pc ls st I := g_weak h k
def qX11_pipes : Room := { frames := 0, cells := 0, slots := 0, locals := 0 }
theorem pdX11_pipes : yX11_pipes.cls ≠ "java/lang/invoke/MethodHandle" ∧ yX11_pipes.cls ≠ "java/lang/invoke/VarHandle" ∧ (parseMethodDescriptor yX11_pipes.desc).map (fun d => d.parameters.length) = some 0 := by decide +kernel
abbrev kX11_pipes : z_Mt := z_mt yX11_pipes.cls cX11_pipes 1 (some .int) qX11_pipes
def JX11_pipes (Q : Int → z_M → Prop) (pc : Nat) (ls st : List z_V) (I : z_M) : Prop := z_R kX11_pipes (z_fin (cqI Q)) pc ls st I
def CX11_pipes (As : List z_V) (I : z_M) (Q : Int → z_M → Prop) : Prop := z_C yX11_pipes cX11_pipes 1 (some .int) qX11_pipes As I (cqI Q)
theorem eX11_pipes {b : Nat} {I : z_M} {Q : Int → z_M → Prop} (k : JX11_pipes Q 0 [aR b] [] I) : CX11_pipes [aR b] I Q := z_intro (by decide +kernel) 0 (Nat.le_of_ble_eq_true rfl) k
theorem vX11_pipes {As : List z_V} {I : z_M} {Q : Int → z_M → Prop} (k : z_CI I → CX11_pipes As I Q) : CX11_pipes As I Q := fun hC hA => k hC hC hA
theorem lX11_pipes {Q : Int → z_M → Prop} {pc : Nat} {ls' ls st : List z_V} {I : z_M} (k : JX11_pipes Q pc ls' st I) (h : ∀ (i : Nat) (v : z_V), ls'[i]? = some v → v ≠ aU → ls[i]? = some v) : JX11_pipes Q pc ls st I := g_weak h k
def qX11_places : Room := { frames := 0, cells := 0, slots := 0, locals := 0 }
theorem pdX11_places : yX11_places.cls ≠ "java/lang/invoke/MethodHandle" ∧ yX11_places.cls ≠ "java/lang/invoke/VarHandle" ∧ (parseMethodDescriptor yX11_places.desc).map (fun d => d.parameters.length) = some 0 := by decide +kernel
abbrev kX11_places : z_Mt := z_mt yX11_places.cls cX11_places 1 (some .int) qX11_places
def JX11_places (Q : Int → z_M → Prop) (pc : Nat) (ls st : List z_V) (I : z_M) : Prop := z_R kX11_places (z_fin (cqI Q)) pc ls st I
def CX11_places (As : List z_V) (I : z_M) (Q : Int → z_M → Prop) : Prop := z_C yX11_places cX11_places 1 (some .int) qX11_places As I (cqI Q)
theorem eX11_places {b : Nat} {I : z_M} {Q : Int → z_M → Prop} (k : JX11_places Q 0 [aR b] [] I) : CX11_places [aR b] I Q := z_intro (by decide +kernel) 0 (Nat.le_of_ble_eq_true rfl) k
theorem vX11_places {As : List z_V} {I : z_M} {Q : Int → z_M → Prop} (k : z_CI I → CX11_places As I Q) : CX11_places As I Q := fun hC hA => k hC hC hA
theorem lX11_places {Q : Int → z_M → Prop} {pc : Nat} {ls' ls st : List z_V} {I : z_M} (k : JX11_places Q pc ls' st I) (h : ∀ (i : Nat) (v : z_V), ls'[i]? = some v → v ≠ aU → ls[i]? = some v) : JX11_places Q pc ls st I := g_weak h k
def qX11_isPipe : Room := { frames := 1, cells := 0, slots := 0, locals := 25 }
theorem pdX11_isPipe : yX11_isPipe.cls ≠ "java/lang/invoke/MethodHandle" ∧ yX11_isPipe.cls ≠ "java/lang/invoke/VarHandle" ∧ (parseMethodDescriptor yX11_isPipe.desc).map (fun d => d.parameters.length) = some 1 := by decide +kernel
abbrev kX11_isPipe : z_Mt := z_mt yX11_isPipe.cls cX11_isPipe 2 (some .boolean) qX11_isPipe
def JX11_isPipe (Q : Int → z_M → Prop) (pc : Nat) (ls st : List z_V) (I : z_M) : Prop := z_R kX11_isPipe (z_fin (cqI Q)) pc ls st I
def CX11_isPipe (As : List z_V) (I : z_M) (Q : Int → z_M → Prop) : Prop := z_C yX11_isPipe cX11_isPipe 2 (some .boolean) qX11_isPipe As I (cqI Q)
theorem eX11_isPipe {b : Nat} {x0 : Int} {I : z_M} {Q : Int → z_M → Prop} (k : JX11_isPipe Q 0 [aR b, aI x0] [] I) : CX11_isPipe [aR b, aI x0] I Q := z_intro (by decide +kernel) 0 (Nat.le_of_ble_eq_true rfl) k
theorem vX11_isPipe {As : List z_V} {I : z_M} {Q : Int → z_M → Prop} (k : z_CI I → CX11_isPipe As I Q) : CX11_isPipe As I Q := fun hC hA => k hC hC hA
theorem lX11_isPipe {Q : Int → z_M → Prop} {pc : Nat} {ls' ls st : List z_V} {I : z_M} (k : JX11_isPipe Q pc ls' st I) (h : ∀ (i : Nat) (v : z_V), ls'[i]? = some v → v ≠ aU → ls[i]? = some v) : JX11_isPipe Q pc ls st I := g_weak h k
def qX11_isPlace : Room := { frames := 1, cells := 0, slots := 0, locals := 25 }
theorem pdX11_isPlace : yX11_isPlace.cls ≠ "java/lang/invoke/MethodHandle" ∧ yX11_isPlace.cls ≠ "java/lang/invoke/VarHandle" ∧ (parseMethodDescriptor yX11_isPlace.desc).map (fun d => d.parameters.length) = some 1 := by decide +kernel
abbrev kX11_isPlace : z_Mt := z_mt yX11_isPlace.cls cX11_isPlace 2 (some .boolean) qX11_isPlace
def JX11_isPlace (Q : Int → z_M → Prop) (pc : Nat) (ls st : List z_V) (I : z_M) : Prop := z_R kX11_isPlace (z_fin (cqI Q)) pc ls st I
def CX11_isPlace (As : List z_V) (I : z_M) (Q : Int → z_M → Prop) : Prop := z_C yX11_isPlace cX11_isPlace 2 (some .boolean) qX11_isPlace As I (cqI Q)
theorem eX11_isPlace {b : Nat} {x0 : Int} {I : z_M} {Q : Int → z_M → Prop} (k : JX11_isPlace Q 0 [aR b, aI x0] [] I) : CX11_isPlace [aR b, aI x0] I Q := z_intro (by decide +kernel) 0 (Nat.le_of_ble_eq_true rfl) k
theorem vX11_isPlace {As : List z_V} {I : z_M} {Q : Int → z_M → Prop} (k : z_CI I → CX11_isPlace As I Q) : CX11_isPlace As I Q := fun hC hA => k hC hC hA
theorem lX11_isPlace {Q : Int → z_M → Prop} {pc : Nat} {ls' ls st : List z_V} {I : z_M} (k : JX11_isPlace Q pc ls' st I) (h : ∀ (i : Nat) (v : z_V), ls'[i]? = some v → v ≠ aU → ls[i]? = some v) : JX11_isPlace Q pc ls st I := g_weak h k
def qX11_isHymn : Room := { frames := 1, cells := 0, slots := 0, locals := 25 }
theorem pdX11_isHymn : yX11_isHymn.cls ≠ "java/lang/invoke/MethodHandle" ∧ yX11_isHymn.cls ≠ "java/lang/invoke/VarHandle" ∧ (parseMethodDescriptor yX11_isHymn.desc).map (fun d => d.parameters.length) = some 1 := by decide +kernel
abbrev kX11_isHymn : z_Mt := z_mt yX11_isHymn.cls cX11_isHymn 1 (some .boolean) qX11_isHymn
def JX11_isHymn (Q : Int → z_M → Prop) (pc : Nat) (ls st : List z_V) (I : z_M) : Prop := z_R kX11_isHymn (z_fin (cqI Q)) pc ls st I
def CX11_isHymn (As : List z_V) (I : z_M) (Q : Int → z_M → Prop) : Prop := z_C yX11_isHymn cX11_isHymn 1 (some .boolean) qX11_isHymn As I (cqI Q)
theorem eX11_isHymn {x0 : Int} {I : z_M} {Q : Int → z_M → Prop} (k : JX11_isHymn Q 0 [aI x0] [] I) : CX11_isHymn [aI x0] I Q := z_intro (by decide +kernel) 0 (Nat.le_of_ble_eq_true rfl) k
theorem vX11_isHymn {As : List z_V} {I : z_M} {Q : Int → z_M → Prop} (k : z_CI I → CX11_isHymn As I Q) : CX11_isHymn As I Q := fun hC hA => k hC hC hA
theorem lX11_isHymn {Q : Int → z_M → Prop} {pc : Nat} {ls' ls st : List z_V} {I : z_M} (k : JX11_isHymn Q pc ls' st I) (h : ∀ (i : Nat) (v : z_V), ls'[i]? = some v → v ≠ aU → ls[i]? = some v) : JX11_isHymn Q pc ls st I := g_weak h k
def qX11_isShift : Room := { frames := 1, cells := 0, slots := 0, locals := 25 }
theorem pdX11_isShift : yX11_isShift.cls ≠ "java/lang/invoke/MethodHandle" ∧ yX11_isShift.cls ≠ "java/lang/invoke/VarHandle" ∧ (parseMethodDescriptor yX11_isShift.desc).map (fun d => d.parameters.length) = some 1 := by decide +kernel
abbrev kX11_isShift : z_Mt := z_mt yX11_isShift.cls cX11_isShift 1 (some .boolean) qX11_isShift
def JX11_isShift (Q : Int → z_M → Prop) (pc : Nat) (ls st : List z_V) (I : z_M) : Prop := z_R kX11_isShift (z_fin (cqI Q)) pc ls st I
def CX11_isShift (As : List z_V) (I : z_M) (Q : Int → z_M → Prop) : Prop := z_C yX11_isShift cX11_isShift 1 (some .boolean) qX11_isShift As I (cqI Q)
theorem eX11_isShift {x0 : Int} {I : z_M} {Q : Int → z_M → Prop} (k : JX11_isShift Q 0 [aI x0] [] I) : CX11_isShift [aI x0] I Q := z_intro (by decide +kernel) 0 (Nat.le_of_ble_eq_true rfl) k
theorem vX11_isShift {As : List z_V} {I : z_M} {Q : Int → z_M → Prop} (k : z_CI I → CX11_isShift As I Q) : CX11_isShift As I Q := fun hC hA => k hC hC hA
theorem lX11_isShift {Q : Int → z_M → Prop} {pc : Nat} {ls' ls st : List z_V} {I : z_M} (k : JX11_isShift Q pc ls' st I) (h : ∀ (i : Nat) (v : z_V), ls'[i]? = some v → v ≠ aU → ls[i]? = some v) : JX11_isShift Q pc ls st I := g_weak h k
def qX11_isThen : Room := { frames := 1, cells := 0, slots := 0, locals := 25 }
theorem pdX11_isThen : yX11_isThen.cls ≠ "java/lang/invoke/MethodHandle" ∧ yX11_isThen.cls ≠ "java/lang/invoke/VarHandle" ∧ (parseMethodDescriptor yX11_isThen.desc).map (fun d => d.parameters.length) = some 1 := by decide +kernel
abbrev kX11_isThen : z_Mt := z_mt yX11_isThen.cls cX11_isThen 1 (some .boolean) qX11_isThen
def JX11_isThen (Q : Int → z_M → Prop) (pc : Nat) (ls st : List z_V) (I : z_M) : Prop := z_R kX11_isThen (z_fin (cqI Q)) pc ls st I
def CX11_isThen (As : List z_V) (I : z_M) (Q : Int → z_M → Prop) : Prop := z_C yX11_isThen cX11_isThen 1 (some .boolean) qX11_isThen As I (cqI Q)
theorem eX11_isThen {x0 : Int} {I : z_M} {Q : Int → z_M → Prop} (k : JX11_isThen Q 0 [aI x0] [] I) : CX11_isThen [aI x0] I Q := z_intro (by decide +kernel) 0 (Nat.le_of_ble_eq_true rfl) k
theorem vX11_isThen {As : List z_V} {I : z_M} {Q : Int → z_M → Prop} (k : z_CI I → CX11_isThen As I Q) : CX11_isThen As I Q := fun hC hA => k hC hC hA
theorem lX11_isThen {Q : Int → z_M → Prop} {pc : Nat} {ls' ls st : List z_V} {I : z_M} (k : JX11_isThen Q pc ls' st I) (h : ∀ (i : Nat) (v : z_V), ls'[i]? = some v → v ≠ aU → ls[i]? = some v) : JX11_isThen Q pc ls st I := g_weak h k
def qX11_placeHas : Room := { frames := 0, cells := 0, slots := 0, locals := 0 }
theorem pdX11_placeHas : yX11_placeHas.cls ≠ "java/lang/invoke/MethodHandle" ∧ yX11_placeHas.cls ≠ "java/lang/invoke/VarHandle" ∧ (parseMethodDescriptor yX11_placeHas.desc).map (fun d => d.parameters.length) = some 2 := by decide +kernel
abbrev kX11_placeHas : z_Mt := z_mt yX11_placeHas.cls cX11_placeHas 3 (some .int) qX11_placeHas
def JX11_placeHas (Q : Int → z_M → Prop) (pc : Nat) (ls st : List z_V) (I : z_M) : Prop := z_R kX11_placeHas (z_fin (cqI Q)) pc ls st I
def CX11_placeHas (As : List z_V) (I : z_M) (Q : Int → z_M → Prop) : Prop := z_C yX11_placeHas cX11_placeHas 3 (some .int) qX11_placeHas As I (cqI Q)
theorem eX11_placeHas {b : Nat} {x0 : Int} {x1 : Int} {I : z_M} {Q : Int → z_M → Prop} (k : JX11_placeHas Q 0 [aR b, aI x0, aI x1] [] I) : CX11_placeHas [aR b, aI x0, aI x1] I Q := z_intro (by decide +kernel) 0 (Nat.le_of_ble_eq_true rfl) k
theorem vX11_placeHas {As : List z_V} {I : z_M} {Q : Int → z_M → Prop} (k : z_CI I → CX11_placeHas As I Q) : CX11_placeHas As I Q := fun hC hA => k hC hC hA
theorem lX11_placeHas {Q : Int → z_M → Prop} {pc : Nat} {ls' ls st : List z_V} {I : z_M} (k : JX11_placeHas Q pc ls' st I) (h : ∀ (i : Nat) (v : z_V), ls'[i]? = some v → v ≠ aU → ls[i]? = some v) : JX11_placeHas Q pc ls st I := g_weak h k
def qX11_pipeHas : Room := { frames := 0, cells := 0, slots := 0, locals := 0 }
theorem pdX11_pipeHas : yX11_pipeHas.cls ≠ "java/lang/invoke/MethodHandle" ∧ yX11_pipeHas.cls ≠ "java/lang/invoke/VarHandle" ∧ (parseMethodDescriptor yX11_pipeHas.desc).map (fun d => d.parameters.length) = some 2 := by decide +kernel
abbrev kX11_pipeHas : z_Mt := z_mt yX11_pipeHas.cls cX11_pipeHas 3 (some .int) qX11_pipeHas
def JX11_pipeHas (Q : Int → z_M → Prop) (pc : Nat) (ls st : List z_V) (I : z_M) : Prop := z_R kX11_pipeHas (z_fin (cqI Q)) pc ls st I
def CX11_pipeHas (As : List z_V) (I : z_M) (Q : Int → z_M → Prop) : Prop := z_C yX11_pipeHas cX11_pipeHas 3 (some .int) qX11_pipeHas As I (cqI Q)
theorem eX11_pipeHas {b : Nat} {x0 : Int} {x1 : Int} {I : z_M} {Q : Int → z_M → Prop} (k : JX11_pipeHas Q 0 [aR b, aI x0, aI x1] [] I) : CX11_pipeHas [aR b, aI x0, aI x1] I Q := z_intro (by decide +kernel) 0 (Nat.le_of_ble_eq_true rfl) k
theorem vX11_pipeHas {As : List z_V} {I : z_M} {Q : Int → z_M → Prop} (k : z_CI I → CX11_pipeHas As I Q) : CX11_pipeHas As I Q := fun hC hA => k hC hC hA
theorem lX11_pipeHas {Q : Int → z_M → Prop} {pc : Nat} {ls' ls st : List z_V} {I : z_M} (k : JX11_pipeHas Q pc ls' st I) (h : ∀ (i : Nat) (v : z_V), ls'[i]? = some v → v ≠ aU → ls[i]? = some v) : JX11_pipeHas Q pc ls st I := g_weak h k
def qX11_notes : Room := { frames := 0, cells := 0, slots := 0, locals := 0 }
theorem pdX11_notes : yX11_notes.cls ≠ "java/lang/invoke/MethodHandle" ∧ yX11_notes.cls ≠ "java/lang/invoke/VarHandle" ∧ (parseMethodDescriptor yX11_notes.desc).map (fun d => d.parameters.length) = some 1 := by decide +kernel
abbrev kX11_notes : z_Mt := z_mt yX11_notes.cls cX11_notes 2 (some .int) qX11_notes
def JX11_notes (Q : Int → z_M → Prop) (pc : Nat) (ls st : List z_V) (I : z_M) : Prop := z_R kX11_notes (z_fin (cqI Q)) pc ls st I
def CX11_notes (As : List z_V) (I : z_M) (Q : Int → z_M → Prop) : Prop := z_C yX11_notes cX11_notes 2 (some .int) qX11_notes As I (cqI Q)
theorem eX11_notes {b : Nat} {x0 : Int} {I : z_M} {Q : Int → z_M → Prop} (k : JX11_notes Q 0 [aR b, aI x0] [] I) : CX11_notes [aR b, aI x0] I Q := z_intro (by decide +kernel) 0 (Nat.le_of_ble_eq_true rfl) k
theorem vX11_notes {As : List z_V} {I : z_M} {Q : Int → z_M → Prop} (k : z_CI I → CX11_notes As I Q) : CX11_notes As I Q := fun hC hA => k hC hC hA
theorem lX11_notes {Q : Int → z_M → Prop} {pc : Nat} {ls' ls st : List z_V} {I : z_M} (k : JX11_notes Q pc ls' st I) (h : ∀ (i : Nat) (v : z_V), ls'[i]? = some v → v ≠ aU → ls[i]? = some v) : JX11_notes Q pc ls st I := g_weak h k
def qX11_noteOf : Room := { frames := 0, cells := 0, slots := 0, locals := 0 }
theorem pdX11_noteOf : yX11_noteOf.cls ≠ "java/lang/invoke/MethodHandle" ∧ yX11_noteOf.cls ≠ "java/lang/invoke/VarHandle" ∧ (parseMethodDescriptor yX11_noteOf.desc).map (fun d => d.parameters.length) = some 2 := by decide +kernel
abbrev kX11_noteOf : z_Mt := z_mt yX11_noteOf.cls cX11_noteOf 3 (some .int) qX11_noteOf
def JX11_noteOf (Q : Int → z_M → Prop) (pc : Nat) (ls st : List z_V) (I : z_M) : Prop := z_R kX11_noteOf (z_fin (cqI Q)) pc ls st I
def CX11_noteOf (As : List z_V) (I : z_M) (Q : Int → z_M → Prop) : Prop := z_C yX11_noteOf cX11_noteOf 3 (some .int) qX11_noteOf As I (cqI Q)
theorem eX11_noteOf {b : Nat} {x0 : Int} {x1 : Int} {I : z_M} {Q : Int → z_M → Prop} (k : JX11_noteOf Q 0 [aR b, aI x0, aI x1] [] I) : CX11_noteOf [aR b, aI x0, aI x1] I Q := z_intro (by decide +kernel) 0 (Nat.le_of_ble_eq_true rfl) k
theorem vX11_noteOf {As : List z_V} {I : z_M} {Q : Int → z_M → Prop} (k : z_CI I → CX11_noteOf As I Q) : CX11_noteOf As I Q := fun hC hA => k hC hC hA
theorem lX11_noteOf {Q : Int → z_M → Prop} {pc : Nat} {ls' ls st : List z_V} {I : z_M} (k : JX11_noteOf Q pc ls' st I) (h : ∀ (i : Nat) (v : z_V), ls'[i]? = some v → v ≠ aU → ls[i]? = some v) : JX11_noteOf Q pc ls st I := g_weak h k
def qX11_organ : Room := { frames := 1, cells := 0, slots := 0, locals := 21 }
theorem pdX11_organ : yX11_organ.cls ≠ "java/lang/invoke/MethodHandle" ∧ yX11_organ.cls ≠ "java/lang/invoke/VarHandle" ∧ (parseMethodDescriptor yX11_organ.desc).map (fun d => d.parameters.length) = some 0 := by decide +kernel
abbrev kX11_organ : z_Mt := z_mt yX11_organ.cls cX11_organ 2 (some .int) qX11_organ
def JX11_organ (Q : Int → z_M → Prop) (pc : Nat) (ls st : List z_V) (I : z_M) : Prop := z_R kX11_organ (z_fin (cqI Q)) pc ls st I
def CX11_organ (As : List z_V) (I : z_M) (Q : Int → z_M → Prop) : Prop := z_C yX11_organ cX11_organ 2 (some .int) qX11_organ As I (cqI Q)
theorem eX11_organ {b : Nat} {I : z_M} {Q : Int → z_M → Prop} (k : JX11_organ Q 0 [aR b, aU] [] I) : CX11_organ [aR b] I Q := z_intro (by decide +kernel) 1 (Nat.le_of_ble_eq_true rfl) k
theorem vX11_organ {As : List z_V} {I : z_M} {Q : Int → z_M → Prop} (k : z_CI I → CX11_organ As I Q) : CX11_organ As I Q := fun hC hA => k hC hC hA
theorem lX11_organ {Q : Int → z_M → Prop} {pc : Nat} {ls' ls st : List z_V} {I : z_M} (k : JX11_organ Q pc ls' st I) (h : ∀ (i : Nat) (v : z_V), ls'[i]? = some v → v ≠ aU → ls[i]? = some v) : JX11_organ Q pc ls st I := g_weak h k
def qX11_layPlace : Room := { frames := 0, cells := 0, slots := 0, locals := 0 }
theorem pdX11_layPlace : yX11_layPlace.cls ≠ "java/lang/invoke/MethodHandle" ∧ yX11_layPlace.cls ≠ "java/lang/invoke/VarHandle" ∧ (parseMethodDescriptor yX11_layPlace.desc).map (fun d => d.parameters.length) = some 6 := by decide +kernel
abbrev kX11_layPlace : z_Mt := z_mt yX11_layPlace.cls cX11_layPlace 7 none qX11_layPlace
def JX11_layPlace (Q : z_M → Prop) (pc : Nat) (ls st : List z_V) (I : z_M) : Prop := z_R kX11_layPlace (z_fin (cqV Q)) pc ls st I
def CX11_layPlace (As : List z_V) (I : z_M) (Q : z_M → Prop) : Prop := z_C yX11_layPlace cX11_layPlace 7 none qX11_layPlace As I (cqV Q)
theorem eX11_layPlace {x0 : Nat} {x1 : Int} {x2 : Int} {x3 : Int} {x4 : Int} {x5 : Int} {I : z_M} {Q : z_M → Prop} (k : JX11_layPlace Q 0 [aR x0, aI x1, aI x2, aI x3, aI x4, aI x5, aU] [] I) : CX11_layPlace [aR x0, aI x1, aI x2, aI x3, aI x4, aI x5] I Q := z_intro (by decide +kernel) 1 (Nat.le_of_ble_eq_true rfl) k
theorem vX11_layPlace {As : List z_V} {I : z_M} {Q : z_M → Prop} (k : z_CI I → CX11_layPlace As I Q) : CX11_layPlace As I Q := fun hC hA => k hC hC hA
theorem lX11_layPlace {Q : z_M → Prop} {pc : Nat} {ls' ls st : List z_V} {I : z_M} (k : JX11_layPlace Q pc ls' st I) (h : ∀ (i : Nat) (v : z_V), ls'[i]? = some v → v ≠ aU → ls[i]? = some v) : JX11_layPlace Q pc ls st I := g_weak h k
def qX11_place : Room := { frames := 1, cells := 0, slots := 0, locals := 26 }
theorem pdX11_place : yX11_place.cls ≠ "java/lang/invoke/MethodHandle" ∧ yX11_place.cls ≠ "java/lang/invoke/VarHandle" ∧ (parseMethodDescriptor yX11_place.desc).map (fun d => d.parameters.length) = some 5 := by decide +kernel
abbrev kX11_place : z_Mt := z_mt yX11_place.cls cX11_place 6 (some .int) qX11_place
def JX11_place (Q : Int → z_M → Prop) (pc : Nat) (ls st : List z_V) (I : z_M) : Prop := z_R kX11_place (z_fin (cqI Q)) pc ls st I
def CX11_place (As : List z_V) (I : z_M) (Q : Int → z_M → Prop) : Prop := z_C yX11_place cX11_place 6 (some .int) qX11_place As I (cqI Q)
theorem eX11_place {b : Nat} {x0 : Int} {x1 : Int} {x2 : Int} {x3 : Int} {x4 : Int} {I : z_M} {Q : Int → z_M → Prop} (k : JX11_place Q 0 [aR b, aI x0, aI x1, aI x2, aI x3, aI x4] [] I) : CX11_place [aR b, aI x0, aI x1, aI x2, aI x3, aI x4] I Q := z_intro (by decide +kernel) 0 (Nat.le_of_ble_eq_true rfl) k
theorem vX11_place {As : List z_V} {I : z_M} {Q : Int → z_M → Prop} (k : z_CI I → CX11_place As I Q) : CX11_place As I Q := fun hC hA => k hC hC hA
theorem lX11_place {Q : Int → z_M → Prop} {pc : Nat} {ls' ls st : List z_V} {I : z_M} (k : JX11_place Q pc ls' st I) (h : ∀ (i : Nat) (v : z_V), ls'[i]? = some v → v ≠ aU → ls[i]? = some v) : JX11_place Q pc ls st I := g_weak h k
def qX11_layPipe : Room := { frames := 0, cells := 0, slots := 0, locals := 0 }
theorem pdX11_layPipe : yX11_layPipe.cls ≠ "java/lang/invoke/MethodHandle" ∧ yX11_layPipe.cls ≠ "java/lang/invoke/VarHandle" ∧ (parseMethodDescriptor yX11_layPipe.desc).map (fun d => d.parameters.length) = some 3 := by decide +kernel
abbrev kX11_layPipe : z_Mt := z_mt yX11_layPipe.cls cX11_layPipe 4 none qX11_layPipe
def JX11_layPipe (Q : z_M → Prop) (pc : Nat) (ls st : List z_V) (I : z_M) : Prop := z_R kX11_layPipe (z_fin (cqV Q)) pc ls st I
def CX11_layPipe (As : List z_V) (I : z_M) (Q : z_M → Prop) : Prop := z_C yX11_layPipe cX11_layPipe 4 none qX11_layPipe As I (cqV Q)
theorem eX11_layPipe {x0 : Nat} {x1 : Int} {x2 : Int} {I : z_M} {Q : z_M → Prop} (k : JX11_layPipe Q 0 [aR x0, aI x1, aI x2, aU] [] I) : CX11_layPipe [aR x0, aI x1, aI x2] I Q := z_intro (by decide +kernel) 1 (Nat.le_of_ble_eq_true rfl) k
theorem vX11_layPipe {As : List z_V} {I : z_M} {Q : z_M → Prop} (k : z_CI I → CX11_layPipe As I Q) : CX11_layPipe As I Q := fun hC hA => k hC hC hA
theorem lX11_layPipe {Q : z_M → Prop} {pc : Nat} {ls' ls st : List z_V} {I : z_M} (k : JX11_layPipe Q pc ls' st I) (h : ∀ (i : Nat) (v : z_V), ls'[i]? = some v → v ≠ aU → ls[i]? = some v) : JX11_layPipe Q pc ls st I := g_weak h k
def qX11_pipe : Room := { frames := 1, cells := 0, slots := 0, locals := 25 }
theorem pdX11_pipe : yX11_pipe.cls ≠ "java/lang/invoke/MethodHandle" ∧ yX11_pipe.cls ≠ "java/lang/invoke/VarHandle" ∧ (parseMethodDescriptor yX11_pipe.desc).map (fun d => d.parameters.length) = some 2 := by decide +kernel
abbrev kX11_pipe : z_Mt := z_mt yX11_pipe.cls cX11_pipe 3 (some .int) qX11_pipe
def JX11_pipe (Q : Int → z_M → Prop) (pc : Nat) (ls st : List z_V) (I : z_M) : Prop := z_R kX11_pipe (z_fin (cqI Q)) pc ls st I
def CX11_pipe (As : List z_V) (I : z_M) (Q : Int → z_M → Prop) : Prop := z_C yX11_pipe cX11_pipe 3 (some .int) qX11_pipe As I (cqI Q)
theorem eX11_pipe {b : Nat} {x0 : Int} {x1 : Int} {I : z_M} {Q : Int → z_M → Prop} (k : JX11_pipe Q 0 [aR b, aI x0, aI x1] [] I) : CX11_pipe [aR b, aI x0, aI x1] I Q := z_intro (by decide +kernel) 0 (Nat.le_of_ble_eq_true rfl) k
theorem vX11_pipe {As : List z_V} {I : z_M} {Q : Int → z_M → Prop} (k : z_CI I → CX11_pipe As I Q) : CX11_pipe As I Q := fun hC hA => k hC hC hA
theorem lX11_pipe {Q : Int → z_M → Prop} {pc : Nat} {ls' ls st : List z_V} {I : z_M} (k : JX11_pipe Q pc ls' st I) (h : ∀ (i : Nat) (v : z_V), ls'[i]? = some v → v ≠ aU → ls[i]? = some v) : JX11_pipe Q pc ls st I := g_weak h k
def qX11_note : Room := { frames := 2, cells := 0, slots := 0, locals := 45 }
theorem pdX11_note : yX11_note.cls ≠ "java/lang/invoke/MethodHandle" ∧ yX11_note.cls ≠ "java/lang/invoke/VarHandle" ∧ (parseMethodDescriptor yX11_note.desc).map (fun d => d.parameters.length) = some 2 := by decide +kernel
abbrev kX11_note : z_Mt := z_mt yX11_note.cls cX11_note 3 (some .int) qX11_note
def JX11_note (Q : Int → z_M → Prop) (pc : Nat) (ls st : List z_V) (I : z_M) : Prop := z_R kX11_note (z_fin (cqI Q)) pc ls st I
def CX11_note (As : List z_V) (I : z_M) (Q : Int → z_M → Prop) : Prop := z_C yX11_note cX11_note 3 (some .int) qX11_note As I (cqI Q)
theorem eX11_note {b : Nat} {x0 : Int} {x1 : Int} {I : z_M} {Q : Int → z_M → Prop} (k : JX11_note Q 0 [aR b, aI x0, aI x1] [] I) : CX11_note [aR b, aI x0, aI x1] I Q := z_intro (by decide +kernel) 0 (Nat.le_of_ble_eq_true rfl) k
theorem vX11_note {As : List z_V} {I : z_M} {Q : Int → z_M → Prop} (k : z_CI I → CX11_note As I Q) : CX11_note As I Q := fun hC hA => k hC hC hA
theorem lX11_note {Q : Int → z_M → Prop} {pc : Nat} {ls' ls st : List z_V} {I : z_M} (k : JX11_note Q pc ls' st I) (h : ∀ (i : Nat) (v : z_V), ls'[i]? = some v → v ≠ aU → ls[i]? = some v) : JX11_note Q pc ls st I := g_weak h k
def qX11_hush : Room := { frames := 2, cells := 0, slots := 0, locals := 45 }
theorem pdX11_hush : yX11_hush.cls ≠ "java/lang/invoke/MethodHandle" ∧ yX11_hush.cls ≠ "java/lang/invoke/VarHandle" ∧ (parseMethodDescriptor yX11_hush.desc).map (fun d => d.parameters.length) = some 1 := by decide +kernel
abbrev kX11_hush : z_Mt := z_mt yX11_hush.cls cX11_hush 3 (some .int) qX11_hush
def JX11_hush (Q : Int → z_M → Prop) (pc : Nat) (ls st : List z_V) (I : z_M) : Prop := z_R kX11_hush (z_fin (cqI Q)) pc ls st I
def CX11_hush (As : List z_V) (I : z_M) (Q : Int → z_M → Prop) : Prop := z_C yX11_hush cX11_hush 3 (some .int) qX11_hush As I (cqI Q)
theorem eX11_hush {b : Nat} {x0 : Int} {I : z_M} {Q : Int → z_M → Prop} (k : JX11_hush Q 0 [aR b, aI x0, aU] [] I) : CX11_hush [aR b, aI x0] I Q := z_intro (by decide +kernel) 1 (Nat.le_of_ble_eq_true rfl) k
theorem vX11_hush {As : List z_V} {I : z_M} {Q : Int → z_M → Prop} (k : z_CI I → CX11_hush As I Q) : CX11_hush As I Q := fun hC hA => k hC hC hA
theorem lX11_hush {Q : Int → z_M → Prop} {pc : Nat} {ls' ls st : List z_V} {I : z_M} (k : JX11_hush Q pc ls' st I) (h : ∀ (i : Nat) (v : z_V), ls'[i]? = some v → v ≠ aU → ls[i]? = some v) : JX11_hush Q pc ls st I := g_weak h k
def qX11_layHand : Room := { frames := 1, cells := 0, slots := 0, locals := 22 }
theorem pdX11_layHand : yX11_layHand.cls ≠ "java/lang/invoke/MethodHandle" ∧ yX11_layHand.cls ≠ "java/lang/invoke/VarHandle" ∧ (parseMethodDescriptor yX11_layHand.desc).map (fun d => d.parameters.length) = some 0 := by decide +kernel
abbrev kX11_layHand : z_Mt := z_mt yX11_layHand.cls cX11_layHand 2 none qX11_layHand
def JX11_layHand (Q : z_M → Prop) (pc : Nat) (ls st : List z_V) (I : z_M) : Prop := z_R kX11_layHand (z_fin (cqV Q)) pc ls st I
def CX11_layHand (As : List z_V) (I : z_M) (Q : z_M → Prop) : Prop := z_C yX11_layHand cX11_layHand 2 none qX11_layHand As I (cqV Q)
theorem eX11_layHand {b : Nat} {I : z_M} {Q : z_M → Prop} (k : JX11_layHand Q 0 [aR b, aU] [] I) : CX11_layHand [aR b] I Q := z_intro (by decide +kernel) 1 (Nat.le_of_ble_eq_true rfl) k
theorem vX11_layHand {As : List z_V} {I : z_M} {Q : z_M → Prop} (k : z_CI I → CX11_layHand As I Q) : CX11_layHand As I Q := fun hC hA => k hC hC hA
theorem lX11_layHand {Q : z_M → Prop} {pc : Nat} {ls' ls st : List z_V} {I : z_M} (k : JX11_layHand Q pc ls' st I) (h : ∀ (i : Nat) (v : z_V), ls'[i]? = some v → v ≠ aU → ls[i]? = some v) : JX11_layHand Q pc ls st I := g_weak h k
def qX11_isWished : Room := { frames := 1, cells := 0, slots := 0, locals := 22 }
theorem pdX11_isWished : yX11_isWished.cls ≠ "java/lang/invoke/MethodHandle" ∧ yX11_isWished.cls ≠ "java/lang/invoke/VarHandle" ∧ (parseMethodDescriptor yX11_isWished.desc).map (fun d => d.parameters.length) = some 1 := by decide +kernel
abbrev kX11_isWished : z_Mt := z_mt yX11_isWished.cls cX11_isWished 2 (some .boolean) qX11_isWished
def JX11_isWished (Q : Int → z_M → Prop) (pc : Nat) (ls st : List z_V) (I : z_M) : Prop := z_R kX11_isWished (z_fin (cqI Q)) pc ls st I
def CX11_isWished (As : List z_V) (I : z_M) (Q : Int → z_M → Prop) : Prop := z_C yX11_isWished cX11_isWished 2 (some .boolean) qX11_isWished As I (cqI Q)
theorem eX11_isWished {b : Nat} {x0 : Int} {I : z_M} {Q : Int → z_M → Prop} (k : JX11_isWished Q 0 [aR b, aI x0] [] I) : CX11_isWished [aR b, aI x0] I Q := z_intro (by decide +kernel) 0 (Nat.le_of_ble_eq_true rfl) k
theorem vX11_isWished {As : List z_V} {I : z_M} {Q : Int → z_M → Prop} (k : z_CI I → CX11_isWished As I Q) : CX11_isWished As I Q := fun hC hA => k hC hC hA
theorem lX11_isWished {Q : Int → z_M → Prop} {pc : Nat} {ls' ls st : List z_V} {I : z_M} (k : JX11_isWished Q pc ls' st I) (h : ∀ (i : Nat) (v : z_V), ls'[i]? = some v → v ≠ aU → ls[i]? = some v) : JX11_isWished Q pc ls st I := g_weak h k
def qX11_isNight : Room := { frames := 0, cells := 0, slots := 0, locals := 0 }
theorem pdX11_isNight : yX11_isNight.cls ≠ "java/lang/invoke/MethodHandle" ∧ yX11_isNight.cls ≠ "java/lang/invoke/VarHandle" ∧ (parseMethodDescriptor yX11_isNight.desc).map (fun d => d.parameters.length) = some 0 := by decide +kernel
abbrev kX11_isNight : z_Mt := z_mt yX11_isNight.cls cX11_isNight 1 (some .boolean) qX11_isNight
def JX11_isNight (Q : Int → z_M → Prop) (pc : Nat) (ls st : List z_V) (I : z_M) : Prop := z_R kX11_isNight (z_fin (cqI Q)) pc ls st I
def CX11_isNight (As : List z_V) (I : z_M) (Q : Int → z_M → Prop) : Prop := z_C yX11_isNight cX11_isNight 1 (some .boolean) qX11_isNight As I (cqI Q)
theorem eX11_isNight {b : Nat} {I : z_M} {Q : Int → z_M → Prop} (k : JX11_isNight Q 0 [aR b] [] I) : CX11_isNight [aR b] I Q := z_intro (by decide +kernel) 0 (Nat.le_of_ble_eq_true rfl) k
theorem vX11_isNight {As : List z_V} {I : z_M} {Q : Int → z_M → Prop} (k : z_CI I → CX11_isNight As I Q) : CX11_isNight As I Q := fun hC hA => k hC hC hA
theorem lX11_isNight {Q : Int → z_M → Prop} {pc : Nat} {ls' ls st : List z_V} {I : z_M} (k : JX11_isNight Q pc ls' st I) (h : ∀ (i : Nat) (v : z_V), ls'[i]? = some v → v ≠ aU → ls[i]? = some v) : JX11_isNight Q pc ls st I := g_weak h k
def qX11_isOtherAway : Room := { frames := 1, cells := 0, slots := 0, locals := 20 }
theorem pdX11_isOtherAway : yX11_isOtherAway.cls ≠ "java/lang/invoke/MethodHandle" ∧ yX11_isOtherAway.cls ≠ "java/lang/invoke/VarHandle" ∧ (parseMethodDescriptor yX11_isOtherAway.desc).map (fun d => d.parameters.length) = some 1 := by decide +kernel
abbrev kX11_isOtherAway : z_Mt := z_mt yX11_isOtherAway.cls cX11_isOtherAway 4 (some .boolean) qX11_isOtherAway
def JX11_isOtherAway (Q : Int → z_M → Prop) (pc : Nat) (ls st : List z_V) (I : z_M) : Prop := z_R kX11_isOtherAway (z_fin (cqI Q)) pc ls st I
def CX11_isOtherAway (As : List z_V) (I : z_M) (Q : Int → z_M → Prop) : Prop := z_C yX11_isOtherAway cX11_isOtherAway 4 (some .boolean) qX11_isOtherAway As I (cqI Q)
theorem eX11_isOtherAway {b : Nat} {x0 : Int} {I : z_M} {Q : Int → z_M → Prop} (k : JX11_isOtherAway Q 0 [aR b, aI x0, aU, aU] [] I) : CX11_isOtherAway [aR b, aI x0] I Q := z_intro (by decide +kernel) 2 (Nat.le_of_ble_eq_true rfl) k
theorem vX11_isOtherAway {As : List z_V} {I : z_M} {Q : Int → z_M → Prop} (k : z_CI I → CX11_isOtherAway As I Q) : CX11_isOtherAway As I Q := fun hC hA => k hC hC hA
theorem lX11_isOtherAway {Q : Int → z_M → Prop} {pc : Nat} {ls' ls st : List z_V} {I : z_M} (k : JX11_isOtherAway Q pc ls' st I) (h : ∀ (i : Nat) (v : z_V), ls'[i]? = some v → v ≠ aU → ls[i]? = some v) : JX11_isOtherAway Q pc ls st I := g_weak h k
def qX11_goes : Room := { frames := 2, cells := 0, slots := 0, locals := 43 }
theorem pdX11_goes : yX11_goes.cls ≠ "java/lang/invoke/MethodHandle" ∧ yX11_goes.cls ≠ "java/lang/invoke/VarHandle" ∧ (parseMethodDescriptor yX11_goes.desc).map (fun d => d.parameters.length) = some 1 := by decide +kernel
abbrev kX11_goes : z_Mt := z_mt yX11_goes.cls cX11_goes 2 (some .boolean) qX11_goes
def JX11_goes (Q : Int → z_M → Prop) (pc : Nat) (ls st : List z_V) (I : z_M) : Prop := z_R kX11_goes (z_fin (cqI Q)) pc ls st I
def CX11_goes (As : List z_V) (I : z_M) (Q : Int → z_M → Prop) : Prop := z_C yX11_goes cX11_goes 2 (some .boolean) qX11_goes As I (cqI Q)
theorem eX11_goes {b : Nat} {x0 : Int} {I : z_M} {Q : Int → z_M → Prop} (k : JX11_goes Q 0 [aR b, aI x0] [] I) : CX11_goes [aR b, aI x0] I Q := z_intro (by decide +kernel) 0 (Nat.le_of_ble_eq_true rfl) k
theorem vX11_goes {As : List z_V} {I : z_M} {Q : Int → z_M → Prop} (k : z_CI I → CX11_goes As I Q) : CX11_goes As I Q := fun hC hA => k hC hC hA
theorem lX11_goes {Q : Int → z_M → Prop} {pc : Nat} {ls' ls st : List z_V} {I : z_M} (k : JX11_goes Q pc ls' st I) (h : ∀ (i : Nat) (v : z_V), ls'[i]? = some v → v ≠ aU → ls[i]? = some v) : JX11_goes Q pc ls st I := g_weak h k
def qX11_comesBack : Room := { frames := 2, cells := 0, slots := 0, locals := 43 }
theorem pdX11_comesBack : yX11_comesBack.cls ≠ "java/lang/invoke/MethodHandle" ∧ yX11_comesBack.cls ≠ "java/lang/invoke/VarHandle" ∧ (parseMethodDescriptor yX11_comesBack.desc).map (fun d => d.parameters.length) = some 1 := by decide +kernel
abbrev kX11_comesBack : z_Mt := z_mt yX11_comesBack.cls cX11_comesBack 3 (some .boolean) qX11_comesBack
def JX11_comesBack (Q : Int → z_M → Prop) (pc : Nat) (ls st : List z_V) (I : z_M) : Prop := z_R kX11_comesBack (z_fin (cqI Q)) pc ls st I
def CX11_comesBack (As : List z_V) (I : z_M) (Q : Int → z_M → Prop) : Prop := z_C yX11_comesBack cX11_comesBack 3 (some .boolean) qX11_comesBack As I (cqI Q)
theorem eX11_comesBack {b : Nat} {x0 : Int} {I : z_M} {Q : Int → z_M → Prop} (k : JX11_comesBack Q 0 [aR b, aI x0, aU] [] I) : CX11_comesBack [aR b, aI x0] I Q := z_intro (by decide +kernel) 1 (Nat.le_of_ble_eq_true rfl) k
theorem vX11_comesBack {As : List z_V} {I : z_M} {Q : Int → z_M → Prop} (k : z_CI I → CX11_comesBack As I Q) : CX11_comesBack As I Q := fun hC hA => k hC hC hA
theorem lX11_comesBack {Q : Int → z_M → Prop} {pc : Nat} {ls' ls st : List z_V} {I : z_M} (k : JX11_comesBack Q pc ls' st I) (h : ∀ (i : Nat) (v : z_V), ls'[i]? = some v → v ≠ aU → ls[i]? = some v) : JX11_comesBack Q pc ls st I := g_weak h k
def qX11_isTaken : Room := { frames := 1, cells := 0, slots := 0, locals := 20 }
theorem pdX11_isTaken : yX11_isTaken.cls ≠ "java/lang/invoke/MethodHandle" ∧ yX11_isTaken.cls ≠ "java/lang/invoke/VarHandle" ∧ (parseMethodDescriptor yX11_isTaken.desc).map (fun d => d.parameters.length) = some 1 := by decide +kernel
abbrev kX11_isTaken : z_Mt := z_mt yX11_isTaken.cls cX11_isTaken 4 (some .boolean) qX11_isTaken
def JX11_isTaken (Q : Int → z_M → Prop) (pc : Nat) (ls st : List z_V) (I : z_M) : Prop := z_R kX11_isTaken (z_fin (cqI Q)) pc ls st I
def CX11_isTaken (As : List z_V) (I : z_M) (Q : Int → z_M → Prop) : Prop := z_C yX11_isTaken cX11_isTaken 4 (some .boolean) qX11_isTaken As I (cqI Q)
theorem eX11_isTaken {b : Nat} {x0 : Int} {I : z_M} {Q : Int → z_M → Prop} (k : JX11_isTaken Q 0 [aR b, aI x0, aU, aU] [] I) : CX11_isTaken [aR b, aI x0] I Q := z_intro (by decide +kernel) 2 (Nat.le_of_ble_eq_true rfl) k
theorem vX11_isTaken {As : List z_V} {I : z_M} {Q : Int → z_M → Prop} (k : z_CI I → CX11_isTaken As I Q) : CX11_isTaken As I Q := fun hC hA => k hC hC hA
theorem lX11_isTaken {Q : Int → z_M → Prop} {pc : Nat} {ls' ls st : List z_V} {I : z_M} (k : JX11_isTaken Q pc ls' st I) (h : ∀ (i : Nat) (v : z_V), ls'[i]? = some v → v ≠ aU → ls[i]? = some v) : JX11_isTaken Q pc ls st I := g_weak h k
def qX11_placeFor : Room := { frames := 2, cells := 0, slots := 0, locals := 43 }
theorem pdX11_placeFor : yX11_placeFor.cls ≠ "java/lang/invoke/MethodHandle" ∧ yX11_placeFor.cls ≠ "java/lang/invoke/VarHandle" ∧ (parseMethodDescriptor yX11_placeFor.desc).map (fun d => d.parameters.length) = some 1 := by decide +kernel
abbrev kX11_placeFor : z_Mt := z_mt yX11_placeFor.cls cX11_placeFor 3 (some .int) qX11_placeFor
def JX11_placeFor (Q : Int → z_M → Prop) (pc : Nat) (ls st : List z_V) (I : z_M) : Prop := z_R kX11_placeFor (z_fin (cqI Q)) pc ls st I
def CX11_placeFor (As : List z_V) (I : z_M) (Q : Int → z_M → Prop) : Prop := z_C yX11_placeFor cX11_placeFor 3 (some .int) qX11_placeFor As I (cqI Q)
theorem eX11_placeFor {b : Nat} {x0 : Int} {I : z_M} {Q : Int → z_M → Prop} (k : JX11_placeFor Q 0 [aR b, aI x0, aU] [] I) : CX11_placeFor [aR b, aI x0] I Q := z_intro (by decide +kernel) 1 (Nat.le_of_ble_eq_true rfl) k
theorem vX11_placeFor {As : List z_V} {I : z_M} {Q : Int → z_M → Prop} (k : z_CI I → CX11_placeFor As I Q) : CX11_placeFor As I Q := fun hC hA => k hC hC hA
theorem lX11_placeFor {Q : Int → z_M → Prop} {pc : Nat} {ls' ls st : List z_V} {I : z_M} (k : JX11_placeFor Q pc ls' st I) (h : ∀ (i : Nat) (v : z_V), ls'[i]? = some v → v ≠ aU → ls[i]? = some v) : JX11_placeFor Q pc ls st I := g_weak h k
def qX11_goHour : Room := { frames := 3, cells := 0, slots := 0, locals := 65 }
theorem pdX11_goHour : yX11_goHour.cls ≠ "java/lang/invoke/MethodHandle" ∧ yX11_goHour.cls ≠ "java/lang/invoke/VarHandle" ∧ (parseMethodDescriptor yX11_goHour.desc).map (fun d => d.parameters.length) = some 0 := by decide +kernel
abbrev kX11_goHour : z_Mt := z_mt yX11_goHour.cls cX11_goHour 2 none qX11_goHour
def JX11_goHour (Q : z_M → Prop) (pc : Nat) (ls st : List z_V) (I : z_M) : Prop := z_R kX11_goHour (z_fin (cqV Q)) pc ls st I
def CX11_goHour (As : List z_V) (I : z_M) (Q : z_M → Prop) : Prop := z_C yX11_goHour cX11_goHour 2 none qX11_goHour As I (cqV Q)
theorem eX11_goHour {b : Nat} {I : z_M} {Q : z_M → Prop} (k : JX11_goHour Q 0 [aR b, aU] [] I) : CX11_goHour [aR b] I Q := z_intro (by decide +kernel) 1 (Nat.le_of_ble_eq_true rfl) k
theorem vX11_goHour {As : List z_V} {I : z_M} {Q : z_M → Prop} (k : z_CI I → CX11_goHour As I Q) : CX11_goHour As I Q := fun hC hA => k hC hC hA
theorem lX11_goHour {Q : z_M → Prop} {pc : Nat} {ls' ls st : List z_V} {I : z_M} (k : JX11_goHour Q pc ls' st I) (h : ∀ (i : Nat) (v : z_V), ls'[i]? = some v → v ≠ aU → ls[i]? = some v) : JX11_goHour Q pc ls st I := g_weak h k
def qX11_goHours : Room := { frames := 4, cells := 0, slots := 0, locals := 86 }
theorem pdX11_goHours : yX11_goHours.cls ≠ "java/lang/invoke/MethodHandle" ∧ yX11_goHours.cls ≠ "java/lang/invoke/VarHandle" ∧ (parseMethodDescriptor yX11_goHours.desc).map (fun d => d.parameters.length) = some 1 := by decide +kernel
abbrev kX11_goHours : z_Mt := z_mt yX11_goHours.cls cX11_goHours 3 none qX11_goHours
def JX11_goHours (Q : z_M → Prop) (pc : Nat) (ls st : List z_V) (I : z_M) : Prop := z_R kX11_goHours (z_fin (cqV Q)) pc ls st I
def CX11_goHours (As : List z_V) (I : z_M) (Q : z_M → Prop) : Prop := z_C yX11_goHours cX11_goHours 3 none qX11_goHours As I (cqV Q)
theorem eX11_goHours {b : Nat} {x0 : Int} {I : z_M} {Q : z_M → Prop} (k : JX11_goHours Q 0 [aR b, aI x0, aU] [] I) : CX11_goHours [aR b, aI x0] I Q := z_intro (by decide +kernel) 1 (Nat.le_of_ble_eq_true rfl) k
theorem vX11_goHours {As : List z_V} {I : z_M} {Q : z_M → Prop} (k : z_CI I → CX11_goHours As I Q) : CX11_goHours As I Q := fun hC hA => k hC hC hA
theorem lX11_goHours {Q : z_M → Prop} {pc : Nat} {ls' ls st : List z_V} {I : z_M} (k : JX11_goHours Q pc ls' st I) (h : ∀ (i : Nat) (v : z_V), ls'[i]? = some v → v ≠ aU → ls[i]? = some v) : JX11_goHours Q pc ls st I := g_weak h k
def qX11_inChurch : Room := { frames := 1, cells := 0, slots := 0, locals := 20 }
theorem pdX11_inChurch : yX11_inChurch.cls ≠ "java/lang/invoke/MethodHandle" ∧ yX11_inChurch.cls ≠ "java/lang/invoke/VarHandle" ∧ (parseMethodDescriptor yX11_inChurch.desc).map (fun d => d.parameters.length) = some 0 := by decide +kernel
abbrev kX11_inChurch : z_Mt := z_mt yX11_inChurch.cls cX11_inChurch 3 (some .int) qX11_inChurch
def JX11_inChurch (Q : Int → z_M → Prop) (pc : Nat) (ls st : List z_V) (I : z_M) : Prop := z_R kX11_inChurch (z_fin (cqI Q)) pc ls st I
def CX11_inChurch (As : List z_V) (I : z_M) (Q : Int → z_M → Prop) : Prop := z_C yX11_inChurch cX11_inChurch 3 (some .int) qX11_inChurch As I (cqI Q)
theorem eX11_inChurch {b : Nat} {I : z_M} {Q : Int → z_M → Prop} (k : JX11_inChurch Q 0 [aR b, aU, aU] [] I) : CX11_inChurch [aR b] I Q := z_intro (by decide +kernel) 2 (Nat.le_of_ble_eq_true rfl) k
theorem vX11_inChurch {As : List z_V} {I : z_M} {Q : Int → z_M → Prop} (k : z_CI I → CX11_inChurch As I Q) : CX11_inChurch As I Q := fun hC hA => k hC hC hA
theorem lX11_inChurch {Q : Int → z_M → Prop} {pc : Nat} {ls' ls st : List z_V} {I : z_M} (k : JX11_inChurch Q pc ls' st I) (h : ∀ (i : Nat) (v : z_V), ls'[i]? = some v → v ≠ aU → ls[i]? = some v) : JX11_inChurch Q pc ls st I := g_weak h k
def qX11_keep : Room := { frames := 1, cells := 0, slots := 0, locals := 22 }
theorem pdX11_keep : yX11_keep.cls ≠ "java/lang/invoke/MethodHandle" ∧ yX11_keep.cls ≠ "java/lang/invoke/VarHandle" ∧ (parseMethodDescriptor yX11_keep.desc).map (fun d => d.parameters.length) = some 0 := by decide +kernel
abbrev kX11_keep : z_Mt := z_mt yX11_keep.cls cX11_keep 3 none qX11_keep
def JX11_keep (Q : z_M → Prop) (pc : Nat) (ls st : List z_V) (I : z_M) : Prop := z_R kX11_keep (z_fin (cqV Q)) pc ls st I
def CX11_keep (As : List z_V) (I : z_M) (Q : z_M → Prop) : Prop := z_C yX11_keep cX11_keep 3 none qX11_keep As I (cqV Q)
theorem eX11_keep {b : Nat} {I : z_M} {Q : z_M → Prop} (k : JX11_keep Q 0 [aR b, aU, aU] [] I) : CX11_keep [aR b] I Q := z_intro (by decide +kernel) 2 (Nat.le_of_ble_eq_true rfl) k
theorem vX11_keep {As : List z_V} {I : z_M} {Q : z_M → Prop} (k : z_CI I → CX11_keep As I Q) : CX11_keep As I Q := fun hC hA => k hC hC hA
theorem lX11_keep {Q : z_M → Prop} {pc : Nat} {ls' ls st : List z_V} {I : z_M} (k : JX11_keep Q pc ls' st I) (h : ∀ (i : Nat) (v : z_V), ls'[i]? = some v → v ≠ aU → ls[i]? = some v) : JX11_keep Q pc ls st I := g_weak h k
def qX11_layNow : Room := { frames := 1, cells := 0, slots := 0, locals := 20 }
theorem pdX11_layNow : yX11_layNow.cls ≠ "java/lang/invoke/MethodHandle" ∧ yX11_layNow.cls ≠ "java/lang/invoke/VarHandle" ∧ (parseMethodDescriptor yX11_layNow.desc).map (fun d => d.parameters.length) = some 0 := by decide +kernel
abbrev kX11_layNow : z_Mt := z_mt yX11_layNow.cls cX11_layNow 2 none qX11_layNow
def JX11_layNow (Q : z_M → Prop) (pc : Nat) (ls st : List z_V) (I : z_M) : Prop := z_R kX11_layNow (z_fin (cqV Q)) pc ls st I
def CX11_layNow (As : List z_V) (I : z_M) (Q : z_M → Prop) : Prop := z_C yX11_layNow cX11_layNow 2 none qX11_layNow As I (cqV Q)
theorem eX11_layNow {b : Nat} {I : z_M} {Q : z_M → Prop} (k : JX11_layNow Q 0 [aR b, aU] [] I) : CX11_layNow [aR b] I Q := z_intro (by decide +kernel) 1 (Nat.le_of_ble_eq_true rfl) k
theorem vX11_layNow {As : List z_V} {I : z_M} {Q : z_M → Prop} (k : z_CI I → CX11_layNow As I Q) : CX11_layNow As I Q := fun hC hA => k hC hC hA
theorem lX11_layNow {Q : z_M → Prop} {pc : Nat} {ls' ls st : List z_V} {I : z_M} (k : JX11_layNow Q pc ls' st I) (h : ∀ (i : Nat) (v : z_V), ls'[i]? = some v → v ≠ aU → ls[i]? = some v) : JX11_layNow Q pc ls st I := g_weak h k
def qX11_pass : Room := { frames := 4, cells := 0, slots := 0, locals := 86 }
theorem pdX11_pass : yX11_pass.cls ≠ "java/lang/invoke/MethodHandle" ∧ yX11_pass.cls ≠ "java/lang/invoke/VarHandle" ∧ (parseMethodDescriptor yX11_pass.desc).map (fun d => d.parameters.length) = some 1 := by decide +kernel
abbrev kX11_pass : z_Mt := z_mt yX11_pass.cls cX11_pass 3 (some .int) qX11_pass
def JX11_pass (Q : Int → z_M → Prop) (pc : Nat) (ls st : List z_V) (I : z_M) : Prop := z_R kX11_pass (z_fin (cqI Q)) pc ls st I
def CX11_pass (As : List z_V) (I : z_M) (Q : Int → z_M → Prop) : Prop := z_C yX11_pass cX11_pass 3 (some .int) qX11_pass As I (cqI Q)
theorem eX11_pass {b : Nat} {x0 : Int} {I : z_M} {Q : Int → z_M → Prop} (k : JX11_pass Q 0 [aR b, aI x0, aU] [] I) : CX11_pass [aR b, aI x0] I Q := z_intro (by decide +kernel) 1 (Nat.le_of_ble_eq_true rfl) k
theorem vX11_pass {As : List z_V} {I : z_M} {Q : Int → z_M → Prop} (k : z_CI I → CX11_pass As I Q) : CX11_pass As I Q := fun hC hA => k hC hC hA
theorem lX11_pass {Q : Int → z_M → Prop} {pc : Nat} {ls' ls st : List z_V} {I : z_M} (k : JX11_pass Q pc ls' st I) (h : ∀ (i : Nat) (v : z_V), ls'[i]? = some v → v ≠ aU → ls[i]? = some v) : JX11_pass Q pc ls st I := g_weak h k
def qX11_fetch : Room := { frames := 2, cells := 0, slots := 0, locals := 46 }
theorem pdX11_fetch : yX11_fetch.cls ≠ "java/lang/invoke/MethodHandle" ∧ yX11_fetch.cls ≠ "java/lang/invoke/VarHandle" ∧ (parseMethodDescriptor yX11_fetch.desc).map (fun d => d.parameters.length) = some 1 := by decide +kernel
abbrev kX11_fetch : z_Mt := z_mt yX11_fetch.cls cX11_fetch 3 (some .int) qX11_fetch
def JX11_fetch (Q : Int → z_M → Prop) (pc : Nat) (ls st : List z_V) (I : z_M) : Prop := z_R kX11_fetch (z_fin (cqI Q)) pc ls st I
def CX11_fetch (As : List z_V) (I : z_M) (Q : Int → z_M → Prop) : Prop := z_C yX11_fetch cX11_fetch 3 (some .int) qX11_fetch As I (cqI Q)
theorem eX11_fetch {b : Nat} {x0 : Int} {I : z_M} {Q : Int → z_M → Prop} (k : JX11_fetch Q 0 [aR b, aI x0, aU] [] I) : CX11_fetch [aR b, aI x0] I Q := z_intro (by decide +kernel) 1 (Nat.le_of_ble_eq_true rfl) k
theorem vX11_fetch {As : List z_V} {I : z_M} {Q : Int → z_M → Prop} (k : z_CI I → CX11_fetch As I Q) : CX11_fetch As I Q := fun hC hA => k hC hC hA
theorem lX11_fetch {Q : Int → z_M → Prop} {pc : Nat} {ls' ls st : List z_V} {I : z_M} (k : JX11_fetch Q pc ls' st I) (h : ∀ (i : Nat) (v : z_V), ls'[i]? = some v → v ≠ aU → ls[i]? = some v) : JX11_fetch Q pc ls st I := g_weak h k
def qX11_undo : Room := { frames := 1, cells := 0, slots := 0, locals := 20 }
theorem pdX11_undo : yX11_undo.cls ≠ "java/lang/invoke/MethodHandle" ∧ yX11_undo.cls ≠ "java/lang/invoke/VarHandle" ∧ (parseMethodDescriptor yX11_undo.desc).map (fun d => d.parameters.length) = some 0 := by decide +kernel
abbrev kX11_undo : z_Mt := z_mt yX11_undo.cls cX11_undo 3 (some .int) qX11_undo
def JX11_undo (Q : Int → z_M → Prop) (pc : Nat) (ls st : List z_V) (I : z_M) : Prop := z_R kX11_undo (z_fin (cqI Q)) pc ls st I
def CX11_undo (As : List z_V) (I : z_M) (Q : Int → z_M → Prop) : Prop := z_C yX11_undo cX11_undo 3 (some .int) qX11_undo As I (cqI Q)
theorem eX11_undo {b : Nat} {I : z_M} {Q : Int → z_M → Prop} (k : JX11_undo Q 0 [aR b, aU, aU] [] I) : CX11_undo [aR b] I Q := z_intro (by decide +kernel) 2 (Nat.le_of_ble_eq_true rfl) k
theorem vX11_undo {As : List z_V} {I : z_M} {Q : Int → z_M → Prop} (k : z_CI I → CX11_undo As I Q) : CX11_undo As I Q := fun hC hA => k hC hC hA
theorem lX11_undo {Q : Int → z_M → Prop} {pc : Nat} {ls' ls st : List z_V} {I : z_M} (k : JX11_undo Q pc ls' st I) (h : ∀ (i : Nat) (v : z_V), ls'[i]? = some v → v ≠ aU → ls[i]? = some v) : JX11_undo Q pc ls st I := g_weak h k
def qX11_of : Room := { frames := 3, cells := 0, slots := 0, locals := 64 }
theorem pdX11_of : yX11_of.cls ≠ "java/lang/invoke/MethodHandle" ∧ yX11_of.cls ≠ "java/lang/invoke/VarHandle" ∧ (parseMethodDescriptor yX11_of.desc).map (fun d => d.parameters.length) = some 2 := by decide +kernel
abbrev kX11_of : z_Mt := z_mt yX11_of.cls cX11_of 3 (some .int) qX11_of
def JX11_of (Q : Int → z_M → Prop) (pc : Nat) (ls st : List z_V) (I : z_M) : Prop := z_R kX11_of (z_fin (cqI Q)) pc ls st I
def CX11_of (As : List z_V) (I : z_M) (Q : Int → z_M → Prop) : Prop := z_C yX11_of cX11_of 3 (some .int) qX11_of As I (cqI Q)
theorem eX11_of {b : Nat} {x0 : Int} {x1 : Int} {I : z_M} {Q : Int → z_M → Prop} (k : JX11_of Q 0 [aR b, aI x0, aI x1] [] I) : CX11_of [aR b, aI x0, aI x1] I Q := z_intro (by decide +kernel) 0 (Nat.le_of_ble_eq_true rfl) k
theorem vX11_of {As : List z_V} {I : z_M} {Q : Int → z_M → Prop} (k : z_CI I → CX11_of As I Q) : CX11_of As I Q := fun hC hA => k hC hC hA
theorem lX11_of {Q : Int → z_M → Prop} {pc : Nat} {ls' ls st : List z_V} {I : z_M} (k : JX11_of Q pc ls' st I) (h : ∀ (i : Nat) (v : z_V), ls'[i]? = some v → v ≠ aU → ls[i]? = some v) : JX11_of Q pc ls st I := g_weak h k
def qX11_farOf : Room := { frames := 1, cells := 0, slots := 0, locals := 22 }
theorem pdX11_farOf : yX11_farOf.cls ≠ "java/lang/invoke/MethodHandle" ∧ yX11_farOf.cls ≠ "java/lang/invoke/VarHandle" ∧ (parseMethodDescriptor yX11_farOf.desc).map (fun d => d.parameters.length) = some 1 := by decide +kernel
abbrev kX11_farOf : z_Mt := z_mt yX11_farOf.cls cX11_farOf 2 (some .int) qX11_farOf
def JX11_farOf (Q : Int → z_M → Prop) (pc : Nat) (ls st : List z_V) (I : z_M) : Prop := z_R kX11_farOf (z_fin (cqI Q)) pc ls st I
def CX11_farOf (As : List z_V) (I : z_M) (Q : Int → z_M → Prop) : Prop := z_C yX11_farOf cX11_farOf 2 (some .int) qX11_farOf As I (cqI Q)
theorem eX11_farOf {b : Nat} {x0 : Int} {I : z_M} {Q : Int → z_M → Prop} (k : JX11_farOf Q 0 [aR b, aI x0] [] I) : CX11_farOf [aR b, aI x0] I Q := z_intro (by decide +kernel) 0 (Nat.le_of_ble_eq_true rfl) k
theorem vX11_farOf {As : List z_V} {I : z_M} {Q : Int → z_M → Prop} (k : z_CI I → CX11_farOf As I Q) : CX11_farOf As I Q := fun hC hA => k hC hC hA
theorem lX11_farOf {Q : Int → z_M → Prop} {pc : Nat} {ls' ls st : List z_V} {I : z_M} (k : JX11_farOf Q pc ls' st I) (h : ∀ (i : Nat) (v : z_V), ls'[i]? = some v → v ≠ aU → ls[i]? = some v) : JX11_farOf Q pc ls st I := g_weak h k
def qX11_at : Room := { frames := 2, cells := 0, slots := 0, locals := 46 }
theorem pdX11_at : yX11_at.cls ≠ "java/lang/invoke/MethodHandle" ∧ yX11_at.cls ≠ "java/lang/invoke/VarHandle" ∧ (parseMethodDescriptor yX11_at.desc).map (fun d => d.parameters.length) = some 2 := by decide +kernel
abbrev kX11_at : z_Mt := z_mt yX11_at.cls cX11_at 5 (some .int) qX11_at
def JX11_at (Q : Int → z_M → Prop) (pc : Nat) (ls st : List z_V) (I : z_M) : Prop := z_R kX11_at (z_fin (cqI Q)) pc ls st I
def CX11_at (As : List z_V) (I : z_M) (Q : Int → z_M → Prop) : Prop := z_C yX11_at cX11_at 5 (some .int) qX11_at As I (cqI Q)
theorem eX11_at {b : Nat} {x0 : Int} {x1 : Int} {I : z_M} {Q : Int → z_M → Prop} (k : JX11_at Q 0 [aR b, aI x0, aI x1, aU, aU] [] I) : CX11_at [aR b, aI x0, aI x1] I Q := z_intro (by decide +kernel) 2 (Nat.le_of_ble_eq_true rfl) k
theorem vX11_at {As : List z_V} {I : z_M} {Q : Int → z_M → Prop} (k : z_CI I → CX11_at As I Q) : CX11_at As I Q := fun hC hA => k hC hC hA
theorem lX11_at {Q : Int → z_M → Prop} {pc : Nat} {ls' ls st : List z_V} {I : z_M} (k : JX11_at Q pc ls' st I) (h : ∀ (i : Nat) (v : z_V), ls'[i]? = some v → v ≠ aU → ls[i]? = some v) : JX11_at Q pc ls st I := g_weak h k
def qX11_then : Room := { frames := 5, cells := 0, slots := 0, locals := 108 }
theorem pdX11_then : yX11_then.cls ≠ "java/lang/invoke/MethodHandle" ∧ yX11_then.cls ≠ "java/lang/invoke/VarHandle" ∧ (parseMethodDescriptor yX11_then.desc).map (fun d => d.parameters.length) = some 2 := by decide +kernel
abbrev kX11_then : z_Mt := z_mt yX11_then.cls cX11_then 3 (some .int) qX11_then
def JX11_then (Q : Int → z_M → Prop) (pc : Nat) (ls st : List z_V) (I : z_M) : Prop := z_R kX11_then (z_fin (cqI Q)) pc ls st I
def CX11_then (As : List z_V) (I : z_M) (Q : Int → z_M → Prop) : Prop := z_C yX11_then cX11_then 3 (some .int) qX11_then As I (cqI Q)
theorem eX11_then {b : Nat} {x0 : Int} {x1 : Int} {I : z_M} {Q : Int → z_M → Prop} (k : JX11_then Q 0 [aR b, aI x0, aI x1] [] I) : CX11_then [aR b, aI x0, aI x1] I Q := z_intro (by decide +kernel) 0 (Nat.le_of_ble_eq_true rfl) k
theorem vX11_then {As : List z_V} {I : z_M} {Q : Int → z_M → Prop} (k : z_CI I → CX11_then As I Q) : CX11_then As I Q := fun hC hA => k hC hC hA
theorem lX11_then {Q : Int → z_M → Prop} {pc : Nat} {ls' ls st : List z_V} {I : z_M} (k : JX11_then Q pc ls' st I) (h : ∀ (i : Nat) (v : z_V), ls'[i]? = some v → v ≠ aU → ls[i]? = some v) : JX11_then Q pc ls st I := g_weak h k
def qX11_left : Room := { frames := 5, cells := 0, slots := 0, locals := 108 }
theorem pdX11_left : yX11_left.cls ≠ "java/lang/invoke/MethodHandle" ∧ yX11_left.cls ≠ "java/lang/invoke/VarHandle" ∧ (parseMethodDescriptor yX11_left.desc).map (fun d => d.parameters.length) = some 1 := by decide +kernel
abbrev kX11_left : z_Mt := z_mt yX11_left.cls cX11_left 2 (some .int) qX11_left
def JX11_left (Q : Int → z_M → Prop) (pc : Nat) (ls st : List z_V) (I : z_M) : Prop := z_R kX11_left (z_fin (cqI Q)) pc ls st I
def CX11_left (As : List z_V) (I : z_M) (Q : Int → z_M → Prop) : Prop := z_C yX11_left cX11_left 2 (some .int) qX11_left As I (cqI Q)
theorem eX11_left {b : Nat} {x0 : Int} {I : z_M} {Q : Int → z_M → Prop} (k : JX11_left Q 0 [aR b, aI x0] [] I) : CX11_left [aR b, aI x0] I Q := z_intro (by decide +kernel) 0 (Nat.le_of_ble_eq_true rfl) k
theorem vX11_left {As : List z_V} {I : z_M} {Q : Int → z_M → Prop} (k : z_CI I → CX11_left As I Q) : CX11_left As I Q := fun hC hA => k hC hC hA
theorem lX11_left {Q : Int → z_M → Prop} {pc : Nat} {ls' ls st : List z_V} {I : z_M} (k : JX11_left Q pc ls' st I) (h : ∀ (i : Nat) (v : z_V), ls'[i]? = some v → v ≠ aU → ls[i]? = some v) : JX11_left Q pc ls st I := g_weak h k
def qX11_isPlayed : Room := { frames := 1, cells := 0, slots := 0, locals := 22 }
theorem pdX11_isPlayed : yX11_isPlayed.cls ≠ "java/lang/invoke/MethodHandle" ∧ yX11_isPlayed.cls ≠ "java/lang/invoke/VarHandle" ∧ (parseMethodDescriptor yX11_isPlayed.desc).map (fun d => d.parameters.length) = some 2 := by decide +kernel
abbrev kX11_isPlayed : z_Mt := z_mt yX11_isPlayed.cls cX11_isPlayed 5 (some .boolean) qX11_isPlayed
def JX11_isPlayed (Q : Int → z_M → Prop) (pc : Nat) (ls st : List z_V) (I : z_M) : Prop := z_R kX11_isPlayed (z_fin (cqI Q)) pc ls st I
def CX11_isPlayed (As : List z_V) (I : z_M) (Q : Int → z_M → Prop) : Prop := z_C yX11_isPlayed cX11_isPlayed 5 (some .boolean) qX11_isPlayed As I (cqI Q)
theorem eX11_isPlayed {b : Nat} {x0 : Int} {x1 : Int} {I : z_M} {Q : Int → z_M → Prop} (k : JX11_isPlayed Q 0 [aR b, aI x0, aI x1, aU, aU] [] I) : CX11_isPlayed [aR b, aI x0, aI x1] I Q := z_intro (by decide +kernel) 2 (Nat.le_of_ble_eq_true rfl) k
theorem vX11_isPlayed {As : List z_V} {I : z_M} {Q : Int → z_M → Prop} (k : z_CI I → CX11_isPlayed As I Q) : CX11_isPlayed As I Q := fun hC hA => k hC hC hA
theorem lX11_isPlayed {Q : Int → z_M → Prop} {pc : Nat} {ls' ls st : List z_V} {I : z_M} (k : JX11_isPlayed Q pc ls' st I) (h : ∀ (i : Nat) (v : z_V), ls'[i]? = some v → v ≠ aU → ls[i]? = some v) : JX11_isPlayed Q pc ls st I := g_weak h k
def qX11_playsBy : Room := { frames := 2, cells := 0, slots := 0, locals := 46 }
theorem pdX11_playsBy : yX11_playsBy.cls ≠ "java/lang/invoke/MethodHandle" ∧ yX11_playsBy.cls ≠ "java/lang/invoke/VarHandle" ∧ (parseMethodDescriptor yX11_playsBy.desc).map (fun d => d.parameters.length) = some 3 := by decide +kernel
abbrev kX11_playsBy : z_Mt := z_mt yX11_playsBy.cls cX11_playsBy 6 (some .int) qX11_playsBy
def JX11_playsBy (Q : Int → z_M → Prop) (pc : Nat) (ls st : List z_V) (I : z_M) : Prop := z_R kX11_playsBy (z_fin (cqI Q)) pc ls st I
def CX11_playsBy (As : List z_V) (I : z_M) (Q : Int → z_M → Prop) : Prop := z_C yX11_playsBy cX11_playsBy 6 (some .int) qX11_playsBy As I (cqI Q)
theorem eX11_playsBy {b : Nat} {x0 : Int} {x1 : Int} {x2 : Int} {I : z_M} {Q : Int → z_M → Prop} (k : JX11_playsBy Q 0 [aR b, aI x0, aI x1, aI x2, aU, aU] [] I) : CX11_playsBy [aR b, aI x0, aI x1, aI x2] I Q := z_intro (by decide +kernel) 2 (Nat.le_of_ble_eq_true rfl) k
theorem vX11_playsBy {As : List z_V} {I : z_M} {Q : Int → z_M → Prop} (k : z_CI I → CX11_playsBy As I Q) : CX11_playsBy As I Q := fun hC hA => k hC hC hA
theorem lX11_playsBy {Q : Int → z_M → Prop} {pc : Nat} {ls' ls st : List z_V} {I : z_M} (k : JX11_playsBy Q pc ls' st I) (h : ∀ (i : Nat) (v : z_V), ls'[i]? = some v → v ≠ aU → ls[i]? = some v) : JX11_playsBy Q pc ls st I := g_weak h k
def qX11_isWhole : Room := { frames := 3, cells := 0, slots := 0, locals := 71 }
theorem pdX11_isWhole : yX11_isWhole.cls ≠ "java/lang/invoke/MethodHandle" ∧ yX11_isWhole.cls ≠ "java/lang/invoke/VarHandle" ∧ (parseMethodDescriptor yX11_isWhole.desc).map (fun d => d.parameters.length) = some 2 := by decide +kernel
abbrev kX11_isWhole : z_Mt := z_mt yX11_isWhole.cls cX11_isWhole 5 (some .boolean) qX11_isWhole
def JX11_isWhole (Q : Int → z_M → Prop) (pc : Nat) (ls st : List z_V) (I : z_M) : Prop := z_R kX11_isWhole (z_fin (cqI Q)) pc ls st I
def CX11_isWhole (As : List z_V) (I : z_M) (Q : Int → z_M → Prop) : Prop := z_C yX11_isWhole cX11_isWhole 5 (some .boolean) qX11_isWhole As I (cqI Q)
theorem eX11_isWhole {b : Nat} {x0 : Int} {x1 : Int} {I : z_M} {Q : Int → z_M → Prop} (k : JX11_isWhole Q 0 [aR b, aI x0, aI x1, aU, aU] [] I) : CX11_isWhole [aR b, aI x0, aI x1] I Q := z_intro (by decide +kernel) 2 (Nat.le_of_ble_eq_true rfl) k
theorem vX11_isWhole {As : List z_V} {I : z_M} {Q : Int → z_M → Prop} (k : z_CI I → CX11_isWhole As I Q) : CX11_isWhole As I Q := fun hC hA => k hC hC hA
theorem lX11_isWhole {Q : Int → z_M → Prop} {pc : Nat} {ls' ls st : List z_V} {I : z_M} (k : JX11_isWhole Q pc ls' st I) (h : ∀ (i : Nat) (v : z_V), ls'[i]? = some v → v ≠ aU → ls[i]? = some v) : JX11_isWhole Q pc ls st I := g_weak h k
def qX11_churchNow : Room := { frames := 2, cells := 0, slots := 0, locals := 43 }
theorem pdX11_churchNow : yX11_churchNow.cls ≠ "java/lang/invoke/MethodHandle" ∧ yX11_churchNow.cls ≠ "java/lang/invoke/VarHandle" ∧ (parseMethodDescriptor yX11_churchNow.desc).map (fun d => d.parameters.length) = some 0 := by decide +kernel
abbrev kX11_churchNow : z_Mt := z_mt yX11_churchNow.cls cX11_churchNow 1 (some .int) qX11_churchNow
def JX11_churchNow (Q : Int → z_M → Prop) (pc : Nat) (ls st : List z_V) (I : z_M) : Prop := z_R kX11_churchNow (z_fin (cqI Q)) pc ls st I
def CX11_churchNow (As : List z_V) (I : z_M) (Q : Int → z_M → Prop) : Prop := z_C yX11_churchNow cX11_churchNow 1 (some .int) qX11_churchNow As I (cqI Q)
theorem eX11_churchNow {b : Nat} {I : z_M} {Q : Int → z_M → Prop} (k : JX11_churchNow Q 0 [aR b] [] I) : CX11_churchNow [aR b] I Q := z_intro (by decide +kernel) 0 (Nat.le_of_ble_eq_true rfl) k
theorem vX11_churchNow {As : List z_V} {I : z_M} {Q : Int → z_M → Prop} (k : z_CI I → CX11_churchNow As I Q) : CX11_churchNow As I Q := fun hC hA => k hC hC hA
theorem lX11_churchNow {Q : Int → z_M → Prop} {pc : Nat} {ls' ls st : List z_V} {I : z_M} (k : JX11_churchNow Q pc ls' st I) (h : ∀ (i : Nat) (v : z_V), ls'[i]? = some v → v ≠ aU → ls[i]? = some v) : JX11_churchNow Q pc ls st I := g_weak h k
def qX11_plays : Room := { frames := 3, cells := 0, slots := 0, locals := 71 }
theorem pdX11_plays : yX11_plays.cls ≠ "java/lang/invoke/MethodHandle" ∧ yX11_plays.cls ≠ "java/lang/invoke/VarHandle" ∧ (parseMethodDescriptor yX11_plays.desc).map (fun d => d.parameters.length) = some 2 := by decide +kernel
abbrev kX11_plays : z_Mt := z_mt yX11_plays.cls cX11_plays 3 (some .int) qX11_plays
def JX11_plays (Q : Int → z_M → Prop) (pc : Nat) (ls st : List z_V) (I : z_M) : Prop := z_R kX11_plays (z_fin (cqI Q)) pc ls st I
def CX11_plays (As : List z_V) (I : z_M) (Q : Int → z_M → Prop) : Prop := z_C yX11_plays cX11_plays 3 (some .int) qX11_plays As I (cqI Q)
theorem eX11_plays {b : Nat} {x0 : Int} {x1 : Int} {I : z_M} {Q : Int → z_M → Prop} (k : JX11_plays Q 0 [aR b, aI x0, aI x1] [] I) : CX11_plays [aR b, aI x0, aI x1] I Q := z_intro (by decide +kernel) 0 (Nat.le_of_ble_eq_true rfl) k
theorem vX11_plays {As : List z_V} {I : z_M} {Q : Int → z_M → Prop} (k : z_CI I → CX11_plays As I Q) : CX11_plays As I Q := fun hC hA => k hC hC hA
theorem lX11_plays {Q : Int → z_M → Prop} {pc : Nat} {ls' ls st : List z_V} {I : z_M} (k : JX11_plays Q pc ls' st I) (h : ∀ (i : Nat) (v : z_V), ls'[i]? = some v → v ≠ aU → ls[i]? = some v) : JX11_plays Q pc ls st I := g_weak h k
def qX11_best : Room := { frames := 3, cells := 0, slots := 0, locals := 71 }
theorem pdX11_best : yX11_best.cls ≠ "java/lang/invoke/MethodHandle" ∧ yX11_best.cls ≠ "java/lang/invoke/VarHandle" ∧ (parseMethodDescriptor yX11_best.desc).map (fun d => d.parameters.length) = some 1 := by decide +kernel
abbrev kX11_best : z_Mt := z_mt yX11_best.cls cX11_best 8 (some .int) qX11_best
def JX11_best (Q : Int → z_M → Prop) (pc : Nat) (ls st : List z_V) (I : z_M) : Prop := z_R kX11_best (z_fin (cqI Q)) pc ls st I
def CX11_best (As : List z_V) (I : z_M) (Q : Int → z_M → Prop) : Prop := z_C yX11_best cX11_best 8 (some .int) qX11_best As I (cqI Q)
theorem eX11_best {b : Nat} {x0 : Int} {I : z_M} {Q : Int → z_M → Prop} (k : JX11_best Q 0 [aR b, aI x0, aU, aU, aU, aU, aU, aU] [] I) : CX11_best [aR b, aI x0] I Q := z_intro (by decide +kernel) 6 (Nat.le_of_ble_eq_true rfl) k
theorem vX11_best {As : List z_V} {I : z_M} {Q : Int → z_M → Prop} (k : z_CI I → CX11_best As I Q) : CX11_best As I Q := fun hC hA => k hC hC hA
theorem lX11_best {Q : Int → z_M → Prop} {pc : Nat} {ls' ls st : List z_V} {I : z_M} (k : JX11_best Q pc ls' st I) (h : ∀ (i : Nat) (v : z_V), ls'[i]? = some v → v ≠ aU → ls[i]? = some v) : JX11_best Q pc ls st I := g_weak h k
def qX11_missing : Room := { frames := 3, cells := 0, slots := 0, locals := 63 }
theorem pdX11_missing : yX11_missing.cls ≠ "java/lang/invoke/MethodHandle" ∧ yX11_missing.cls ≠ "java/lang/invoke/VarHandle" ∧ (parseMethodDescriptor yX11_missing.desc).map (fun d => d.parameters.length) = some 2 := by decide +kernel
abbrev kX11_missing : z_Mt := z_mt yX11_missing.cls cX11_missing 7 (some .int) qX11_missing
def JX11_missing (Q : Int → z_M → Prop) (pc : Nat) (ls st : List z_V) (I : z_M) : Prop := z_R kX11_missing (z_fin (cqI Q)) pc ls st I
def CX11_missing (As : List z_V) (I : z_M) (Q : Int → z_M → Prop) : Prop := z_C yX11_missing cX11_missing 7 (some .int) qX11_missing As I (cqI Q)
theorem eX11_missing {b : Nat} {x0 : Int} {x1 : Int} {I : z_M} {Q : Int → z_M → Prop} (k : JX11_missing Q 0 [aR b, aI x0, aI x1, aU, aU, aU, aU] [] I) : CX11_missing [aR b, aI x0, aI x1] I Q := z_intro (by decide +kernel) 4 (Nat.le_of_ble_eq_true rfl) k
theorem vX11_missing {As : List z_V} {I : z_M} {Q : Int → z_M → Prop} (k : z_CI I → CX11_missing As I Q) : CX11_missing As I Q := fun hC hA => k hC hC hA
theorem lX11_missing {Q : Int → z_M → Prop} {pc : Nat} {ls' ls st : List z_V} {I : z_M} (k : JX11_missing Q pc ls' st I) (h : ∀ (i : Nat) (v : z_V), ls'[i]? = some v → v ≠ aU → ls[i]? = some v) : JX11_missing Q pc ls st I := g_weak h k
def qX11_fetchAll : Room := { frames := 4, cells := 0, slots := 0, locals := 95 }
theorem pdX11_fetchAll : yX11_fetchAll.cls ≠ "java/lang/invoke/MethodHandle" ∧ yX11_fetchAll.cls ≠ "java/lang/invoke/VarHandle" ∧ (parseMethodDescriptor yX11_fetchAll.desc).map (fun d => d.parameters.length) = some 1 := by decide +kernel
abbrev kX11_fetchAll : z_Mt := z_mt yX11_fetchAll.cls cX11_fetchAll 6 (some .int) qX11_fetchAll
def JX11_fetchAll (Q : Int → z_M → Prop) (pc : Nat) (ls st : List z_V) (I : z_M) : Prop := z_R kX11_fetchAll (z_fin (cqI Q)) pc ls st I
def CX11_fetchAll (As : List z_V) (I : z_M) (Q : Int → z_M → Prop) : Prop := z_C yX11_fetchAll cX11_fetchAll 6 (some .int) qX11_fetchAll As I (cqI Q)
theorem eX11_fetchAll {b : Nat} {x0 : Int} {I : z_M} {Q : Int → z_M → Prop} (k : JX11_fetchAll Q 0 [aR b, aI x0, aU, aU, aU, aU] [] I) : CX11_fetchAll [aR b, aI x0] I Q := z_intro (by decide +kernel) 4 (Nat.le_of_ble_eq_true rfl) k
theorem vX11_fetchAll {As : List z_V} {I : z_M} {Q : Int → z_M → Prop} (k : z_CI I → CX11_fetchAll As I Q) : CX11_fetchAll As I Q := fun hC hA => k hC hC hA
theorem lX11_fetchAll {Q : Int → z_M → Prop} {pc : Nat} {ls' ls st : List z_V} {I : z_M} (k : JX11_fetchAll Q pc ls' st I) (h : ∀ (i : Nat) (v : z_V), ls'[i]? = some v → v ≠ aU → ls[i]? = some v) : JX11_fetchAll Q pc ls st I := g_weak h k
def qX11_falls : Room := { frames := 4, cells := 0, slots := 0, locals := 95 }
theorem pdX11_falls : yX11_falls.cls ≠ "java/lang/invoke/MethodHandle" ∧ yX11_falls.cls ≠ "java/lang/invoke/VarHandle" ∧ (parseMethodDescriptor yX11_falls.desc).map (fun d => d.parameters.length) = some 1 := by decide +kernel
abbrev kX11_falls : z_Mt := z_mt yX11_falls.cls cX11_falls 3 (some .int) qX11_falls
def JX11_falls (Q : Int → z_M → Prop) (pc : Nat) (ls st : List z_V) (I : z_M) : Prop := z_R kX11_falls (z_fin (cqI Q)) pc ls st I
def CX11_falls (As : List z_V) (I : z_M) (Q : Int → z_M → Prop) : Prop := z_C yX11_falls cX11_falls 3 (some .int) qX11_falls As I (cqI Q)
theorem eX11_falls {b : Nat} {x0 : Int} {I : z_M} {Q : Int → z_M → Prop} (k : JX11_falls Q 0 [aR b, aI x0, aU] [] I) : CX11_falls [aR b, aI x0] I Q := z_intro (by decide +kernel) 1 (Nat.le_of_ble_eq_true rfl) k
theorem vX11_falls {As : List z_V} {I : z_M} {Q : Int → z_M → Prop} (k : z_CI I → CX11_falls As I Q) : CX11_falls As I Q := fun hC hA => k hC hC hA
theorem lX11_falls {Q : Int → z_M → Prop} {pc : Nat} {ls' ls st : List z_V} {I : z_M} (k : JX11_falls Q pc ls' st I) (h : ∀ (i : Nat) (v : z_V), ls'[i]? = some v → v ≠ aU → ls[i]? = some v) : JX11_falls Q pc ls st I := g_weak h k
def qX11_apart : Room := { frames := 0, cells := 0, slots := 0, locals := 0 }
theorem pdX11_apart : yX11_apart.cls ≠ "java/lang/invoke/MethodHandle" ∧ yX11_apart.cls ≠ "java/lang/invoke/VarHandle" ∧ (parseMethodDescriptor yX11_apart.desc).map (fun d => d.parameters.length) = some 2 := by decide +kernel
abbrev kX11_apart : z_Mt := z_mt yX11_apart.cls cX11_apart 2 (some .int) qX11_apart
def JX11_apart (Q : Int → z_M → Prop) (pc : Nat) (ls st : List z_V) (I : z_M) : Prop := z_R kX11_apart (z_fin (cqI Q)) pc ls st I
def CX11_apart (As : List z_V) (I : z_M) (Q : Int → z_M → Prop) : Prop := z_C yX11_apart cX11_apart 2 (some .int) qX11_apart As I (cqI Q)
theorem eX11_apart {x0 : Int} {x1 : Int} {I : z_M} {Q : Int → z_M → Prop} (k : JX11_apart Q 0 [aI x0, aI x1] [] I) : CX11_apart [aI x0, aI x1] I Q := z_intro (by decide +kernel) 0 (Nat.le_of_ble_eq_true rfl) k
theorem vX11_apart {As : List z_V} {I : z_M} {Q : Int → z_M → Prop} (k : z_CI I → CX11_apart As I Q) : CX11_apart As I Q := fun hC hA => k hC hC hA
theorem lX11_apart {Q : Int → z_M → Prop} {pc : Nat} {ls' ls st : List z_V} {I : z_M} (k : JX11_apart Q pc ls' st I) (h : ∀ (i : Nat) (v : z_V), ls'[i]? = some v → v ≠ aU → ls[i]? = some v) : JX11_apart Q pc ls st I := g_weak h k
def qX11_between : Room := { frames := 1, cells := 0, slots := 0, locals := 22 }
theorem pdX11_between : yX11_between.cls ≠ "java/lang/invoke/MethodHandle" ∧ yX11_between.cls ≠ "java/lang/invoke/VarHandle" ∧ (parseMethodDescriptor yX11_between.desc).map (fun d => d.parameters.length) = some 2 := by decide +kernel
abbrev kX11_between : z_Mt := z_mt yX11_between.cls cX11_between 3 (some .int) qX11_between
def JX11_between (Q : Int → z_M → Prop) (pc : Nat) (ls st : List z_V) (I : z_M) : Prop := z_R kX11_between (z_fin (cqI Q)) pc ls st I
def CX11_between (As : List z_V) (I : z_M) (Q : Int → z_M → Prop) : Prop := z_C yX11_between cX11_between 3 (some .int) qX11_between As I (cqI Q)
theorem eX11_between {b : Nat} {x0 : Int} {x1 : Int} {I : z_M} {Q : Int → z_M → Prop} (k : JX11_between Q 0 [aR b, aI x0, aI x1] [] I) : CX11_between [aR b, aI x0, aI x1] I Q := z_intro (by decide +kernel) 0 (Nat.le_of_ble_eq_true rfl) k
theorem vX11_between {As : List z_V} {I : z_M} {Q : Int → z_M → Prop} (k : z_CI I → CX11_between As I Q) : CX11_between As I Q := fun hC hA => k hC hC hA
theorem lX11_between {Q : Int → z_M → Prop} {pc : Nat} {ls' ls st : List z_V} {I : z_M} (k : JX11_between Q pc ls' st I) (h : ∀ (i : Nat) (v : z_V), ls'[i]? = some v → v ≠ aU → ls[i]? = some v) : JX11_between Q pc ls st I := g_weak h k
def qX11_longOf : Room := { frames := 2, cells := 0, slots := 0, locals := 44 }
theorem pdX11_longOf : yX11_longOf.cls ≠ "java/lang/invoke/MethodHandle" ∧ yX11_longOf.cls ≠ "java/lang/invoke/VarHandle" ∧ (parseMethodDescriptor yX11_longOf.desc).map (fun d => d.parameters.length) = some 1 := by decide +kernel
abbrev kX11_longOf : z_Mt := z_mt yX11_longOf.cls cX11_longOf 4 (some .int) qX11_longOf
def JX11_longOf (Q : Int → z_M → Prop) (pc : Nat) (ls st : List z_V) (I : z_M) : Prop := z_R kX11_longOf (z_fin (cqI Q)) pc ls st I
def CX11_longOf (As : List z_V) (I : z_M) (Q : Int → z_M → Prop) : Prop := z_C yX11_longOf cX11_longOf 4 (some .int) qX11_longOf As I (cqI Q)
theorem eX11_longOf {b : Nat} {x0 : Int} {I : z_M} {Q : Int → z_M → Prop} (k : JX11_longOf Q 0 [aR b, aI x0, aU, aU] [] I) : CX11_longOf [aR b, aI x0] I Q := z_intro (by decide +kernel) 2 (Nat.le_of_ble_eq_true rfl) k
theorem vX11_longOf {As : List z_V} {I : z_M} {Q : Int → z_M → Prop} (k : z_CI I → CX11_longOf As I Q) : CX11_longOf As I Q := fun hC hA => k hC hC hA
theorem lX11_longOf {Q : Int → z_M → Prop} {pc : Nat} {ls' ls st : List z_V} {I : z_M} (k : JX11_longOf Q pc ls' st I) (h : ∀ (i : Nat) (v : z_V), ls'[i]? = some v → v ≠ aU → ls[i]? = some v) : JX11_longOf Q pc ls st I := g_weak h k
def qX11_nextOrder : Room := { frames := 0, cells := 0, slots := 0, locals := 0 }
theorem pdX11_nextOrder : yX11_nextOrder.cls ≠ "java/lang/invoke/MethodHandle" ∧ yX11_nextOrder.cls ≠ "java/lang/invoke/VarHandle" ∧ (parseMethodDescriptor yX11_nextOrder.desc).map (fun d => d.parameters.length) = some 1 := by decide +kernel
abbrev kX11_nextOrder : z_Mt := z_mt yX11_nextOrder.cls cX11_nextOrder 8 (some .boolean) qX11_nextOrder
def JX11_nextOrder (Q : Int → z_M → Prop) (pc : Nat) (ls st : List z_V) (I : z_M) : Prop := z_R kX11_nextOrder (z_fin (cqI Q)) pc ls st I
def CX11_nextOrder (As : List z_V) (I : z_M) (Q : Int → z_M → Prop) : Prop := z_C yX11_nextOrder cX11_nextOrder 8 (some .boolean) qX11_nextOrder As I (cqI Q)
theorem eX11_nextOrder {b : Nat} {x0 : Int} {I : z_M} {Q : Int → z_M → Prop} (k : JX11_nextOrder Q 0 [aR b, aI x0, aU, aU, aU, aU, aU, aU] [] I) : CX11_nextOrder [aR b, aI x0] I Q := z_intro (by decide +kernel) 6 (Nat.le_of_ble_eq_true rfl) k
theorem vX11_nextOrder {As : List z_V} {I : z_M} {Q : Int → z_M → Prop} (k : z_CI I → CX11_nextOrder As I Q) : CX11_nextOrder As I Q := fun hC hA => k hC hC hA
theorem lX11_nextOrder {Q : Int → z_M → Prop} {pc : Nat} {ls' ls st : List z_V} {I : z_M} (k : JX11_nextOrder Q pc ls' st I) (h : ∀ (i : Nat) (v : z_V), ls'[i]? = some v → v ≠ aU → ls[i]? = some v) : JX11_nextOrder Q pc ls st I := g_weak h k
def qX11_layWalk : Room := { frames := 3, cells := 0, slots := 0, locals := 67 }
theorem pdX11_layWalk : yX11_layWalk.cls ≠ "java/lang/invoke/MethodHandle" ∧ yX11_layWalk.cls ≠ "java/lang/invoke/VarHandle" ∧ (parseMethodDescriptor yX11_layWalk.desc).map (fun d => d.parameters.length) = some 1 := by decide +kernel
abbrev kX11_layWalk : z_Mt := z_mt yX11_layWalk.cls cX11_layWalk 5 none qX11_layWalk
def JX11_layWalk (Q : z_M → Prop) (pc : Nat) (ls st : List z_V) (I : z_M) : Prop := z_R kX11_layWalk (z_fin (cqV Q)) pc ls st I
def CX11_layWalk (As : List z_V) (I : z_M) (Q : z_M → Prop) : Prop := z_C yX11_layWalk cX11_layWalk 5 none qX11_layWalk As I (cqV Q)
theorem eX11_layWalk {b : Nat} {x0 : Int} {I : z_M} {Q : z_M → Prop} (k : JX11_layWalk Q 0 [aR b, aI x0, aU, aU, aU] [] I) : CX11_layWalk [aR b, aI x0] I Q := z_intro (by decide +kernel) 3 (Nat.le_of_ble_eq_true rfl) k
theorem vX11_layWalk {As : List z_V} {I : z_M} {Q : z_M → Prop} (k : z_CI I → CX11_layWalk As I Q) : CX11_layWalk As I Q := fun hC hA => k hC hC hA
theorem lX11_layWalk {Q : z_M → Prop} {pc : Nat} {ls' ls st : List z_V} {I : z_M} (k : JX11_layWalk Q pc ls' st I) (h : ∀ (i : Nat) (v : z_V), ls'[i]? = some v → v ≠ aU → ls[i]? = some v) : JX11_layWalk Q pc ls st I := g_weak h k
def qX11_walk : Room := { frames := 4, cells := 0, slots := 0, locals := 91 }
theorem pdX11_walk : yX11_walk.cls ≠ "java/lang/invoke/MethodHandle" ∧ yX11_walk.cls ≠ "java/lang/invoke/VarHandle" ∧ (parseMethodDescriptor yX11_walk.desc).map (fun d => d.parameters.length) = some 2 := by decide +kernel
abbrev kX11_walk : z_Mt := z_mt yX11_walk.cls cX11_walk 6 (some .int) qX11_walk
def JX11_walk (Q : Int → z_M → Prop) (pc : Nat) (ls st : List z_V) (I : z_M) : Prop := z_R kX11_walk (z_fin (cqI Q)) pc ls st I
def CX11_walk (As : List z_V) (I : z_M) (Q : Int → z_M → Prop) : Prop := z_C yX11_walk cX11_walk 6 (some .int) qX11_walk As I (cqI Q)
theorem eX11_walk {b : Nat} {x0 : Int} {x1 : Int} {I : z_M} {Q : Int → z_M → Prop} (k : JX11_walk Q 0 [aR b, aI x0, aI x1, aU, aU, aU] [] I) : CX11_walk [aR b, aI x0, aI x1] I Q := z_intro (by decide +kernel) 3 (Nat.le_of_ble_eq_true rfl) k
theorem vX11_walk {As : List z_V} {I : z_M} {Q : Int → z_M → Prop} (k : z_CI I → CX11_walk As I Q) : CX11_walk As I Q := fun hC hA => k hC hC hA
theorem lX11_walk {Q : Int → z_M → Prop} {pc : Nat} {ls' ls st : List z_V} {I : z_M} (k : JX11_walk Q pc ls' st I) (h : ∀ (i : Nat) (v : z_V), ls'[i]? = some v → v ≠ aU → ls[i]? = some v) : JX11_walk Q pc ls st I := g_weak h k
def qX11_reading : Room := { frames := 2, cells := 0, slots := 0, locals := 46 }
theorem pdX11_reading : yX11_reading.cls ≠ "java/lang/invoke/MethodHandle" ∧ yX11_reading.cls ≠ "java/lang/invoke/VarHandle" ∧ (parseMethodDescriptor yX11_reading.desc).map (fun d => d.parameters.length) = some 4 := by decide +kernel
abbrev kX11_reading : z_Mt := z_mt yX11_reading.cls cX11_reading 6 (some .int) qX11_reading
def JX11_reading (Q : Int → z_M → Prop) (pc : Nat) (ls st : List z_V) (I : z_M) : Prop := z_R kX11_reading (z_fin (cqI Q)) pc ls st I
def CX11_reading (As : List z_V) (I : z_M) (Q : Int → z_M → Prop) : Prop := z_C yX11_reading cX11_reading 6 (some .int) qX11_reading As I (cqI Q)
theorem eX11_reading {b : Nat} {x0 : Int} {x1 : Int} {x2 : Int} {x3 : Int} {I : z_M} {Q : Int → z_M → Prop} (k : JX11_reading Q 0 [aR b, aI x0, aI x1, aI x2, aI x3, aU] [] I) : CX11_reading [aR b, aI x0, aI x1, aI x2, aI x3] I Q := z_intro (by decide +kernel) 1 (Nat.le_of_ble_eq_true rfl) k
theorem vX11_reading {As : List z_V} {I : z_M} {Q : Int → z_M → Prop} (k : z_CI I → CX11_reading As I Q) : CX11_reading As I Q := fun hC hA => k hC hC hA
theorem lX11_reading {Q : Int → z_M → Prop} {pc : Nat} {ls' ls st : List z_V} {I : z_M} (k : JX11_reading Q pc ls' st I) (h : ∀ (i : Nat) (v : z_V), ls'[i]? = some v → v ≠ aU → ls[i]? = some v) : JX11_reading Q pc ls st I := g_weak h k
def qX11_forget : Room := { frames := 0, cells := 0, slots := 0, locals := 0 }
theorem pdX11_forget : yX11_forget.cls ≠ "java/lang/invoke/MethodHandle" ∧ yX11_forget.cls ≠ "java/lang/invoke/VarHandle" ∧ (parseMethodDescriptor yX11_forget.desc).map (fun d => d.parameters.length) = some 0 := by decide +kernel
abbrev kX11_forget : z_Mt := z_mt yX11_forget.cls cX11_forget 2 (some .int) qX11_forget
def JX11_forget (Q : Int → z_M → Prop) (pc : Nat) (ls st : List z_V) (I : z_M) : Prop := z_R kX11_forget (z_fin (cqI Q)) pc ls st I
def CX11_forget (As : List z_V) (I : z_M) (Q : Int → z_M → Prop) : Prop := z_C yX11_forget cX11_forget 2 (some .int) qX11_forget As I (cqI Q)
theorem eX11_forget {b : Nat} {I : z_M} {Q : Int → z_M → Prop} (k : JX11_forget Q 0 [aR b, aU] [] I) : CX11_forget [aR b] I Q := z_intro (by decide +kernel) 1 (Nat.le_of_ble_eq_true rfl) k
theorem vX11_forget {As : List z_V} {I : z_M} {Q : Int → z_M → Prop} (k : z_CI I → CX11_forget As I Q) : CX11_forget As I Q := fun hC hA => k hC hC hA
theorem lX11_forget {Q : Int → z_M → Prop} {pc : Nat} {ls' ls st : List z_V} {I : z_M} (k : JX11_forget Q pc ls' st I) (h : ∀ (i : Nat) (v : z_V), ls'[i]? = some v → v ≠ aU → ls[i]? = some v) : JX11_forget Q pc ls st I := g_weak h k
def qX11_isReadSo : Room := { frames := 0, cells := 0, slots := 0, locals := 0 }
theorem pdX11_isReadSo : yX11_isReadSo.cls ≠ "java/lang/invoke/MethodHandle" ∧ yX11_isReadSo.cls ≠ "java/lang/invoke/VarHandle" ∧ (parseMethodDescriptor yX11_isReadSo.desc).map (fun d => d.parameters.length) = some 1 := by decide +kernel
abbrev kX11_isReadSo : z_Mt := z_mt yX11_isReadSo.cls cX11_isReadSo 3 (some .boolean) qX11_isReadSo
def JX11_isReadSo (Q : Int → z_M → Prop) (pc : Nat) (ls st : List z_V) (I : z_M) : Prop := z_R kX11_isReadSo (z_fin (cqI Q)) pc ls st I
def CX11_isReadSo (As : List z_V) (I : z_M) (Q : Int → z_M → Prop) : Prop := z_C yX11_isReadSo cX11_isReadSo 3 (some .boolean) qX11_isReadSo As I (cqI Q)
theorem eX11_isReadSo {b : Nat} {x0 : Int} {I : z_M} {Q : Int → z_M → Prop} (k : JX11_isReadSo Q 0 [aR b, aI x0, aU] [] I) : CX11_isReadSo [aR b, aI x0] I Q := z_intro (by decide +kernel) 1 (Nat.le_of_ble_eq_true rfl) k
theorem vX11_isReadSo {As : List z_V} {I : z_M} {Q : Int → z_M → Prop} (k : z_CI I → CX11_isReadSo As I Q) : CX11_isReadSo As I Q := fun hC hA => k hC hC hA
theorem lX11_isReadSo {Q : Int → z_M → Prop} {pc : Nat} {ls' ls st : List z_V} {I : z_M} (k : JX11_isReadSo Q pc ls' st I) (h : ∀ (i : Nat) (v : z_V), ls'[i]? = some v → v ≠ aU → ls[i]? = some v) : JX11_isReadSo Q pc ls st I := g_weak h k
def qX11_mayBe : Room := { frames := 4, cells := 0, slots := 0, locals := 86 }
theorem pdX11_mayBe : yX11_mayBe.cls ≠ "java/lang/invoke/MethodHandle" ∧ yX11_mayBe.cls ≠ "java/lang/invoke/VarHandle" ∧ (parseMethodDescriptor yX11_mayBe.desc).map (fun d => d.parameters.length) = some 2 := by decide +kernel
abbrev kX11_mayBe : z_Mt := z_mt yX11_mayBe.cls cX11_mayBe 6 (some .boolean) qX11_mayBe
def JX11_mayBe (Q : Int → z_M → Prop) (pc : Nat) (ls st : List z_V) (I : z_M) : Prop := z_R kX11_mayBe (z_fin (cqI Q)) pc ls st I
def CX11_mayBe (As : List z_V) (I : z_M) (Q : Int → z_M → Prop) : Prop := z_C yX11_mayBe cX11_mayBe 6 (some .boolean) qX11_mayBe As I (cqI Q)
theorem eX11_mayBe {b : Nat} {x0 : Int} {x1 : Int} {I : z_M} {Q : Int → z_M → Prop} (k : JX11_mayBe Q 0 [aR b, aI x0, aI x1, aU, aU, aU] [] I) : CX11_mayBe [aR b, aI x0, aI x1] I Q := z_intro (by decide +kernel) 3 (Nat.le_of_ble_eq_true rfl) k
theorem vX11_mayBe {As : List z_V} {I : z_M} {Q : Int → z_M → Prop} (k : z_CI I → CX11_mayBe As I Q) : CX11_mayBe As I Q := fun hC hA => k hC hC hA
theorem lX11_mayBe {Q : Int → z_M → Prop} {pc : Nat} {ls' ls st : List z_V} {I : z_M} (k : JX11_mayBe Q pc ls' st I) (h : ∀ (i : Nat) (v : z_V), ls'[i]? = some v → v ≠ aU → ls[i]? = some v) : JX11_mayBe Q pc ls st I := g_weak h k
def qX11_kindsOf : Room := { frames := 5, cells := 0, slots := 0, locals := 111 }
theorem pdX11_kindsOf : yX11_kindsOf.cls ≠ "java/lang/invoke/MethodHandle" ∧ yX11_kindsOf.cls ≠ "java/lang/invoke/VarHandle" ∧ (parseMethodDescriptor yX11_kindsOf.desc).map (fun d => d.parameters.length) = some 1 := by decide +kernel
abbrev kX11_kindsOf : z_Mt := z_mt yX11_kindsOf.cls cX11_kindsOf 4 (some .int) qX11_kindsOf
def JX11_kindsOf (Q : Int → z_M → Prop) (pc : Nat) (ls st : List z_V) (I : z_M) : Prop := z_R kX11_kindsOf (z_fin (cqI Q)) pc ls st I
def CX11_kindsOf (As : List z_V) (I : z_M) (Q : Int → z_M → Prop) : Prop := z_C yX11_kindsOf cX11_kindsOf 4 (some .int) qX11_kindsOf As I (cqI Q)
theorem eX11_kindsOf {b : Nat} {x0 : Int} {I : z_M} {Q : Int → z_M → Prop} (k : JX11_kindsOf Q 0 [aR b, aI x0, aU, aU] [] I) : CX11_kindsOf [aR b, aI x0] I Q := z_intro (by decide +kernel) 2 (Nat.le_of_ble_eq_true rfl) k
theorem vX11_kindsOf {As : List z_V} {I : z_M} {Q : Int → z_M → Prop} (k : z_CI I → CX11_kindsOf As I Q) : CX11_kindsOf As I Q := fun hC hA => k hC hC hA
theorem lX11_kindsOf {Q : Int → z_M → Prop} {pc : Nat} {ls' ls st : List z_V} {I : z_M} (k : JX11_kindsOf Q pc ls' st I) (h : ∀ (i : Nat) (v : z_V), ls'[i]? = some v → v ≠ aU → ls[i]? = some v) : JX11_kindsOf Q pc ls st I := g_weak h k
def qX11_may : Room := { frames := 6, cells := 0, slots := 0, locals := 134 }
theorem pdX11_may : yX11_may.cls ≠ "java/lang/invoke/MethodHandle" ∧ yX11_may.cls ≠ "java/lang/invoke/VarHandle" ∧ (parseMethodDescriptor yX11_may.desc).map (fun d => d.parameters.length) = some 1 := by decide +kernel
abbrev kX11_may : z_Mt := z_mt yX11_may.cls cX11_may 2 (some .int) qX11_may
def JX11_may (Q : Int → z_M → Prop) (pc : Nat) (ls st : List z_V) (I : z_M) : Prop := z_R kX11_may (z_fin (cqI Q)) pc ls st I
def CX11_may (As : List z_V) (I : z_M) (Q : Int → z_M → Prop) : Prop := z_C yX11_may cX11_may 2 (some .int) qX11_may As I (cqI Q)
theorem eX11_may {b : Nat} {x0 : Int} {I : z_M} {Q : Int → z_M → Prop} (k : JX11_may Q 0 [aR b, aI x0] [] I) : CX11_may [aR b, aI x0] I Q := z_intro (by decide +kernel) 0 (Nat.le_of_ble_eq_true rfl) k
theorem vX11_may {As : List z_V} {I : z_M} {Q : Int → z_M → Prop} (k : z_CI I → CX11_may As I Q) : CX11_may As I Q := fun hC hA => k hC hC hA
theorem lX11_may {Q : Int → z_M → Prop} {pc : Nat} {ls' ls st : List z_V} {I : z_M} (k : JX11_may Q pc ls' st I) (h : ∀ (i : Nat) (v : z_V), ls'[i]? = some v → v ≠ aU → ls[i]? = some v) : JX11_may Q pc ls st I := g_weak h k
def qX11_listen : Room := { frames := 6, cells := 0, slots := 0, locals := 134 }
theorem pdX11_listen : yX11_listen.cls ≠ "java/lang/invoke/MethodHandle" ∧ yX11_listen.cls ≠ "java/lang/invoke/VarHandle" ∧ (parseMethodDescriptor yX11_listen.desc).map (fun d => d.parameters.length) = some 2 := by decide +kernel
abbrev kX11_listen : z_Mt := z_mt yX11_listen.cls cX11_listen 9 (some .int) qX11_listen
def JX11_listen (Q : Int → z_M → Prop) (pc : Nat) (ls st : List z_V) (I : z_M) : Prop := z_R kX11_listen (z_fin (cqI Q)) pc ls st I
def CX11_listen (As : List z_V) (I : z_M) (Q : Int → z_M → Prop) : Prop := z_C yX11_listen cX11_listen 9 (some .int) qX11_listen As I (cqI Q)
theorem eX11_listen {b : Nat} {x0 : Int} {x1 : Int} {I : z_M} {Q : Int → z_M → Prop} (k : JX11_listen Q 0 [aR b, aI x0, aI x1, aU, aU, aU, aU, aU, aU] [] I) : CX11_listen [aR b, aI x0, aI x1] I Q := z_intro (by decide +kernel) 6 (Nat.le_of_ble_eq_true rfl) k
theorem vX11_listen {As : List z_V} {I : z_M} {Q : Int → z_M → Prop} (k : z_CI I → CX11_listen As I Q) : CX11_listen As I Q := fun hC hA => k hC hC hA
theorem lX11_listen {Q : Int → z_M → Prop} {pc : Nat} {ls' ls st : List z_V} {I : z_M} (k : JX11_listen Q pc ls' st I) (h : ∀ (i : Nat) (v : z_V), ls'[i]? = some v → v ≠ aU → ls[i]? = some v) : JX11_listen Q pc ls st I := g_weak h k
def qX11_wish : Room := { frames := 5, cells := 0, slots := 0, locals := 108 }
theorem pdX11_wish : yX11_wish.cls ≠ "java/lang/invoke/MethodHandle" ∧ yX11_wish.cls ≠ "java/lang/invoke/VarHandle" ∧ (parseMethodDescriptor yX11_wish.desc).map (fun d => d.parameters.length) = some 2 := by decide +kernel
abbrev kX11_wish : z_Mt := z_mt yX11_wish.cls cX11_wish 7 (some .int) qX11_wish
def JX11_wish (Q : Int → z_M → Prop) (pc : Nat) (ls st : List z_V) (I : z_M) : Prop := z_R kX11_wish (z_fin (cqI Q)) pc ls st I
def CX11_wish (As : List z_V) (I : z_M) (Q : Int → z_M → Prop) : Prop := z_C yX11_wish cX11_wish 7 (some .int) qX11_wish As I (cqI Q)
theorem eX11_wish {b : Nat} {x0 : Int} {x1 : Int} {I : z_M} {Q : Int → z_M → Prop} (k : JX11_wish Q 0 [aR b, aI x0, aI x1, aU, aU, aU, aU] [] I) : CX11_wish [aR b, aI x0, aI x1] I Q := z_intro (by decide +kernel) 4 (Nat.le_of_ble_eq_true rfl) k
theorem vX11_wish {As : List z_V} {I : z_M} {Q : Int → z_M → Prop} (k : z_CI I → CX11_wish As I Q) : CX11_wish As I Q := fun hC hA => k hC hC hA
theorem lX11_wish {Q : Int → z_M → Prop} {pc : Nat} {ls' ls st : List z_V} {I : z_M} (k : JX11_wish Q pc ls' st I) (h : ∀ (i : Nat) (v : z_V), ls'[i]? = some v → v ≠ aU → ls[i]? = some v) : JX11_wish Q pc ls st I := g_weak h k
def qX11_fraction : Room := { frames := 0, cells := 0, slots := 0, locals := 0 }
theorem pdX11_fraction : yX11_fraction.cls ≠ "java/lang/invoke/MethodHandle" ∧ yX11_fraction.cls ≠ "java/lang/invoke/VarHandle" ∧ (parseMethodDescriptor yX11_fraction.desc).map (fun d => d.parameters.length) = some 2 := by decide +kernel
abbrev kX11_fraction : z_Mt := z_mt yX11_fraction.cls cX11_fraction 11 none qX11_fraction
def JX11_fraction (Q : z_M → Prop) (pc : Nat) (ls st : List z_V) (I : z_M) : Prop := z_R kX11_fraction (z_fin (cqV Q)) pc ls st I
def CX11_fraction (As : List z_V) (I : z_M) (Q : z_M → Prop) : Prop := z_C yX11_fraction cX11_fraction 11 none qX11_fraction As I (cqV Q)
theorem eX11_fraction {b : Nat} {x0 : Int} {x1 : Int} {I : z_M} {Q : z_M → Prop} (k : JX11_fraction Q 0 [aR b, aL x0, aU, aL x1, aU, aU, aU, aU, aU, aU, aU] [] I) : CX11_fraction [aR b, aL x0, aL x1] I Q := z_intro (by decide +kernel) 6 (Nat.le_of_ble_eq_true rfl) k
theorem vX11_fraction {As : List z_V} {I : z_M} {Q : z_M → Prop} (k : z_CI I → CX11_fraction As I Q) : CX11_fraction As I Q := fun hC hA => k hC hC hA
theorem lX11_fraction {Q : z_M → Prop} {pc : Nat} {ls' ls st : List z_V} {I : z_M} (k : JX11_fraction Q pc ls' st I) (h : ∀ (i : Nat) (v : z_V), ls'[i]? = some v → v ≠ aU → ls[i]? = some v) : JX11_fraction Q pc ls st I := g_weak h k
def qX11_feast : Room := { frames := 3, cells := 0, slots := 0, locals := 71 }
theorem pdX11_feast : yX11_feast.cls ≠ "java/lang/invoke/MethodHandle" ∧ yX11_feast.cls ≠ "java/lang/invoke/VarHandle" ∧ (parseMethodDescriptor yX11_feast.desc).map (fun d => d.parameters.length) = some 3 := by decide +kernel
abbrev kX11_feast : z_Mt := z_mt yX11_feast.cls cX11_feast 14 (some .int) qX11_feast
def JX11_feast (Q : Int → z_M → Prop) (pc : Nat) (ls st : List z_V) (I : z_M) : Prop := z_R kX11_feast (z_fin (cqI Q)) pc ls st I
def CX11_feast (As : List z_V) (I : z_M) (Q : Int → z_M → Prop) : Prop := z_C yX11_feast cX11_feast 14 (some .int) qX11_feast As I (cqI Q)
theorem eX11_feast {b : Nat} {x0 : Int} {x1 : Int} {x2 : Int} {I : z_M} {Q : Int → z_M → Prop} (k : JX11_feast Q 0 [aR b, aI x0, aI x1, aI x2, aU, aU, aU, aU, aU, aU, aU, aU, aU, aU] [] I) : CX11_feast [aR b, aI x0, aI x1, aI x2] I Q := z_intro (by decide +kernel) 10 (Nat.le_of_ble_eq_true rfl) k
theorem vX11_feast {As : List z_V} {I : z_M} {Q : Int → z_M → Prop} (k : z_CI I → CX11_feast As I Q) : CX11_feast As I Q := fun hC hA => k hC hC hA
theorem lX11_feast {Q : Int → z_M → Prop} {pc : Nat} {ls' ls st : List z_V} {I : z_M} (k : JX11_feast Q pc ls' st I) (h : ∀ (i : Nat) (v : z_V), ls'[i]? = some v → v ≠ aU → ls[i]? = some v) : JX11_feast Q pc ls st I := g_weak h k
def qX11_hours : Room := { frames := 4, cells := 0, slots := 0, locals := 86 }
theorem pdX11_hours : yX11_hours.cls ≠ "java/lang/invoke/MethodHandle" ∧ yX11_hours.cls ≠ "java/lang/invoke/VarHandle" ∧ (parseMethodDescriptor yX11_hours.desc).map (fun d => d.parameters.length) = some 2 := by decide +kernel
abbrev kX11_hours : z_Mt := z_mt yX11_hours.cls cX11_hours 7 (some .int) qX11_hours
def JX11_hours (Q : Int → z_M → Prop) (pc : Nat) (ls st : List z_V) (I : z_M) : Prop := z_R kX11_hours (z_fin (cqI Q)) pc ls st I
def CX11_hours (As : List z_V) (I : z_M) (Q : Int → z_M → Prop) : Prop := z_C yX11_hours cX11_hours 7 (some .int) qX11_hours As I (cqI Q)
theorem eX11_hours {b : Nat} {x0 : Int} {x1 : Int} {I : z_M} {Q : Int → z_M → Prop} (k : JX11_hours Q 0 [aR b, aI x0, aI x1, aU, aU, aU, aU] [] I) : CX11_hours [aR b, aI x0, aI x1] I Q := z_intro (by decide +kernel) 4 (Nat.le_of_ble_eq_true rfl) k
theorem vX11_hours {As : List z_V} {I : z_M} {Q : Int → z_M → Prop} (k : z_CI I → CX11_hours As I Q) : CX11_hours As I Q := fun hC hA => k hC hC hA
theorem lX11_hours {Q : Int → z_M → Prop} {pc : Nat} {ls' ls st : List z_V} {I : z_M} (k : JX11_hours Q pc ls' st I) (h : ∀ (i : Nat) (v : z_V), ls'[i]? = some v → v ≠ aU → ls[i]? = some v) : JX11_hours Q pc ls st I := g_weak h k
def qX11_type : Room := { frames := 1, cells := 0, slots := 0, locals := 25 }
theorem pdX11_type : yX11_type.cls ≠ "java/lang/invoke/MethodHandle" ∧ yX11_type.cls ≠ "java/lang/invoke/VarHandle" ∧ (parseMethodDescriptor yX11_type.desc).map (fun d => d.parameters.length) = some 1 := by decide +kernel
abbrev kX11_type : z_Mt := z_mt yX11_type.cls cX11_type 2 (some .int) qX11_type
def JX11_type (Q : Int → z_M → Prop) (pc : Nat) (ls st : List z_V) (I : z_M) : Prop := z_R kX11_type (z_fin (cqI Q)) pc ls st I
def CX11_type (As : List z_V) (I : z_M) (Q : Int → z_M → Prop) : Prop := z_C yX11_type cX11_type 2 (some .int) qX11_type As I (cqI Q)
theorem eX11_type {b : Nat} {x0 : Int} {I : z_M} {Q : Int → z_M → Prop} (k : JX11_type Q 0 [aR b, aI x0] [] I) : CX11_type [aR b, aI x0] I Q := z_intro (by decide +kernel) 0 (Nat.le_of_ble_eq_true rfl) k
theorem vX11_type {As : List z_V} {I : z_M} {Q : Int → z_M → Prop} (k : z_CI I → CX11_type As I Q) : CX11_type As I Q := fun hC hA => k hC hC hA
theorem lX11_type {Q : Int → z_M → Prop} {pc : Nat} {ls' ls st : List z_V} {I : z_M} (k : JX11_type Q pc ls' st I) (h : ∀ (i : Nat) (v : z_V), ls'[i]? = some v → v ≠ aU → ls[i]? = some v) : JX11_type Q pc ls st I := g_weak h k
def qX11_clear : Room := { frames := 0, cells := 0, slots := 0, locals := 0 }
theorem pdX11_clear : yX11_clear.cls ≠ "java/lang/invoke/MethodHandle" ∧ yX11_clear.cls ≠ "java/lang/invoke/VarHandle" ∧ (parseMethodDescriptor yX11_clear.desc).map (fun d => d.parameters.length) = some 0 := by decide +kernel
abbrev kX11_clear : z_Mt := z_mt yX11_clear.cls cX11_clear 2 (some .int) qX11_clear
def JX11_clear (Q : Int → z_M → Prop) (pc : Nat) (ls st : List z_V) (I : z_M) : Prop := z_R kX11_clear (z_fin (cqI Q)) pc ls st I
def CX11_clear (As : List z_V) (I : z_M) (Q : Int → z_M → Prop) : Prop := z_C yX11_clear cX11_clear 2 (some .int) qX11_clear As I (cqI Q)
theorem eX11_clear {b : Nat} {I : z_M} {Q : Int → z_M → Prop} (k : JX11_clear Q 0 [aR b, aU] [] I) : CX11_clear [aR b] I Q := z_intro (by decide +kernel) 1 (Nat.le_of_ble_eq_true rfl) k
theorem vX11_clear {As : List z_V} {I : z_M} {Q : Int → z_M → Prop} (k : z_CI I → CX11_clear As I Q) : CX11_clear As I Q := fun hC hA => k hC hC hA
theorem lX11_clear {Q : Int → z_M → Prop} {pc : Nat} {ls' ls st : List z_V} {I : z_M} (k : JX11_clear Q pc ls' st I) (h : ∀ (i : Nat) (v : z_V), ls'[i]? = some v → v ≠ aU → ls[i]? = some v) : JX11_clear Q pc ls st I := g_weak h k
def qX11_isSmall : Room := { frames := 1, cells := 0, slots := 0, locals := 25 }
theorem pdX11_isSmall : yX11_isSmall.cls ≠ "java/lang/invoke/MethodHandle" ∧ yX11_isSmall.cls ≠ "java/lang/invoke/VarHandle" ∧ (parseMethodDescriptor yX11_isSmall.desc).map (fun d => d.parameters.length) = some 1 := by decide +kernel
abbrev kX11_isSmall : z_Mt := z_mt yX11_isSmall.cls cX11_isSmall 1 (some .boolean) qX11_isSmall
def JX11_isSmall (Q : Int → z_M → Prop) (pc : Nat) (ls st : List z_V) (I : z_M) : Prop := z_R kX11_isSmall (z_fin (cqI Q)) pc ls st I
def CX11_isSmall (As : List z_V) (I : z_M) (Q : Int → z_M → Prop) : Prop := z_C yX11_isSmall cX11_isSmall 1 (some .boolean) qX11_isSmall As I (cqI Q)
theorem eX11_isSmall {x0 : Int} {I : z_M} {Q : Int → z_M → Prop} (k : JX11_isSmall Q 0 [aI x0] [] I) : CX11_isSmall [aI x0] I Q := z_intro (by decide +kernel) 0 (Nat.le_of_ble_eq_true rfl) k
theorem vX11_isSmall {As : List z_V} {I : z_M} {Q : Int → z_M → Prop} (k : z_CI I → CX11_isSmall As I Q) : CX11_isSmall As I Q := fun hC hA => k hC hC hA
theorem lX11_isSmall {Q : Int → z_M → Prop} {pc : Nat} {ls' ls st : List z_V} {I : z_M} (k : JX11_isSmall Q pc ls' st I) (h : ∀ (i : Nat) (v : z_V), ls'[i]? = some v → v ≠ aU → ls[i]? = some v) : JX11_isSmall Q pc ls st I := g_weak h k
def qX11_isFigure : Room := { frames := 1, cells := 0, slots := 0, locals := 25 }
theorem pdX11_isFigure : yX11_isFigure.cls ≠ "java/lang/invoke/MethodHandle" ∧ yX11_isFigure.cls ≠ "java/lang/invoke/VarHandle" ∧ (parseMethodDescriptor yX11_isFigure.desc).map (fun d => d.parameters.length) = some 1 := by decide +kernel
abbrev kX11_isFigure : z_Mt := z_mt yX11_isFigure.cls cX11_isFigure 1 (some .boolean) qX11_isFigure
def JX11_isFigure (Q : Int → z_M → Prop) (pc : Nat) (ls st : List z_V) (I : z_M) : Prop := z_R kX11_isFigure (z_fin (cqI Q)) pc ls st I
def CX11_isFigure (As : List z_V) (I : z_M) (Q : Int → z_M → Prop) : Prop := z_C yX11_isFigure cX11_isFigure 1 (some .boolean) qX11_isFigure As I (cqI Q)
theorem eX11_isFigure {x0 : Int} {I : z_M} {Q : Int → z_M → Prop} (k : JX11_isFigure Q 0 [aI x0] [] I) : CX11_isFigure [aI x0] I Q := z_intro (by decide +kernel) 0 (Nat.le_of_ble_eq_true rfl) k
theorem vX11_isFigure {As : List z_V} {I : z_M} {Q : Int → z_M → Prop} (k : z_CI I → CX11_isFigure As I Q) : CX11_isFigure As I Q := fun hC hA => k hC hC hA
theorem lX11_isFigure {Q : Int → z_M → Prop} {pc : Nat} {ls' ls st : List z_V} {I : z_M} (k : JX11_isFigure Q pc ls' st I) (h : ∀ (i : Nat) (v : z_V), ls'[i]? = some v → v ≠ aU → ls[i]? = some v) : JX11_isFigure Q pc ls st I := g_weak h k
def qX11_lookAt : Room := { frames := 2, cells := 0, slots := 0, locals := 45 }
theorem pdX11_lookAt : yX11_lookAt.cls ≠ "java/lang/invoke/MethodHandle" ∧ yX11_lookAt.cls ≠ "java/lang/invoke/VarHandle" ∧ (parseMethodDescriptor yX11_lookAt.desc).map (fun d => d.parameters.length) = some 1 := by decide +kernel
abbrev kX11_lookAt : z_Mt := z_mt yX11_lookAt.cls cX11_lookAt 5 none qX11_lookAt
def JX11_lookAt (Q : z_M → Prop) (pc : Nat) (ls st : List z_V) (I : z_M) : Prop := z_R kX11_lookAt (z_fin (cqV Q)) pc ls st I
def CX11_lookAt (As : List z_V) (I : z_M) (Q : z_M → Prop) : Prop := z_C yX11_lookAt cX11_lookAt 5 none qX11_lookAt As I (cqV Q)
theorem eX11_lookAt {b : Nat} {x0 : Int} {I : z_M} {Q : z_M → Prop} (k : JX11_lookAt Q 0 [aR b, aI x0, aU, aU, aU] [] I) : CX11_lookAt [aR b, aI x0] I Q := z_intro (by decide +kernel) 3 (Nat.le_of_ble_eq_true rfl) k
theorem vX11_lookAt {As : List z_V} {I : z_M} {Q : z_M → Prop} (k : z_CI I → CX11_lookAt As I Q) : CX11_lookAt As I Q := fun hC hA => k hC hC hA
theorem lX11_lookAt {Q : z_M → Prop} {pc : Nat} {ls' ls st : List z_V} {I : z_M} (k : JX11_lookAt Q pc ls' st I) (h : ∀ (i : Nat) (v : z_V), ls'[i]? = some v → v ≠ aU → ls[i]? = some v) : JX11_lookAt Q pc ls st I := g_weak h k
def qX11_goBehind : Room := { frames := 3, cells := 0, slots := 0, locals := 69 }
theorem pdX11_goBehind : yX11_goBehind.cls ≠ "java/lang/invoke/MethodHandle" ∧ yX11_goBehind.cls ≠ "java/lang/invoke/VarHandle" ∧ (parseMethodDescriptor yX11_goBehind.desc).map (fun d => d.parameters.length) = some 0 := by decide +kernel
abbrev kX11_goBehind : z_Mt := z_mt yX11_goBehind.cls cX11_goBehind 1 none qX11_goBehind
def JX11_goBehind (Q : z_M → Prop) (pc : Nat) (ls st : List z_V) (I : z_M) : Prop := z_R kX11_goBehind (z_fin (cqV Q)) pc ls st I
def CX11_goBehind (As : List z_V) (I : z_M) (Q : z_M → Prop) : Prop := z_C yX11_goBehind cX11_goBehind 1 none qX11_goBehind As I (cqV Q)
theorem eX11_goBehind {b : Nat} {I : z_M} {Q : z_M → Prop} (k : JX11_goBehind Q 0 [aR b] [] I) : CX11_goBehind [aR b] I Q := z_intro (by decide +kernel) 0 (Nat.le_of_ble_eq_true rfl) k
theorem vX11_goBehind {As : List z_V} {I : z_M} {Q : z_M → Prop} (k : z_CI I → CX11_goBehind As I Q) : CX11_goBehind As I Q := fun hC hA => k hC hC hA
theorem lX11_goBehind {Q : z_M → Prop} {pc : Nat} {ls' ls st : List z_V} {I : z_M} (k : JX11_goBehind Q pc ls' st I) (h : ∀ (i : Nat) (v : z_V), ls'[i]? = some v → v ≠ aU → ls[i]? = some v) : JX11_goBehind Q pc ls st I := g_weak h k
def qX11_isCalled : Room := { frames := 0, cells := 0, slots := 0, locals := 0 }
theorem pdX11_isCalled : yX11_isCalled.cls ≠ "java/lang/invoke/MethodHandle" ∧ yX11_isCalled.cls ≠ "java/lang/invoke/VarHandle" ∧ (parseMethodDescriptor yX11_isCalled.desc).map (fun d => d.parameters.length) = some 6 := by decide +kernel
abbrev kX11_isCalled : z_Mt := z_mt yX11_isCalled.cls cX11_isCalled 9 (some .boolean) qX11_isCalled
def JX11_isCalled (Q : Int → z_M → Prop) (pc : Nat) (ls st : List z_V) (I : z_M) : Prop := z_R kX11_isCalled (z_fin (cqI Q)) pc ls st I
def CX11_isCalled (As : List z_V) (I : z_M) (Q : Int → z_M → Prop) : Prop := z_C yX11_isCalled cX11_isCalled 9 (some .boolean) qX11_isCalled As I (cqI Q)
theorem eX11_isCalled {b : Nat} {x0 : Int} {x1 : Int} {x2 : Int} {x3 : Int} {x4 : Int} {x5 : Int} {I : z_M} {Q : Int → z_M → Prop} (k : JX11_isCalled Q 0 [aR b, aI x0, aI x1, aI x2, aI x3, aI x4, aI x5, aU, aU] [] I) : CX11_isCalled [aR b, aI x0, aI x1, aI x2, aI x3, aI x4, aI x5] I Q := z_intro (by decide +kernel) 2 (Nat.le_of_ble_eq_true rfl) k
theorem vX11_isCalled {As : List z_V} {I : z_M} {Q : Int → z_M → Prop} (k : z_CI I → CX11_isCalled As I Q) : CX11_isCalled As I Q := fun hC hA => k hC hC hA
theorem lX11_isCalled {Q : Int → z_M → Prop} {pc : Nat} {ls' ls st : List z_V} {I : z_M} (k : JX11_isCalled Q pc ls' st I) (h : ∀ (i : Nat) (v : z_V), ls'[i]? = some v → v ≠ aU → ls[i]? = some v) : JX11_isCalled Q pc ls st I := g_weak h k
def qX11_takes : Room := { frames := 4, cells := 0, slots := 0, locals := 89 }
theorem pdX11_takes : yX11_takes.cls ≠ "java/lang/invoke/MethodHandle" ∧ yX11_takes.cls ≠ "java/lang/invoke/VarHandle" ∧ (parseMethodDescriptor yX11_takes.desc).map (fun d => d.parameters.length) = some 3 := by decide +kernel
abbrev kX11_takes : z_Mt := z_mt yX11_takes.cls cX11_takes 4 (some .boolean) qX11_takes
def JX11_takes (Q : Int → z_M → Prop) (pc : Nat) (ls st : List z_V) (I : z_M) : Prop := z_R kX11_takes (z_fin (cqI Q)) pc ls st I
def CX11_takes (As : List z_V) (I : z_M) (Q : Int → z_M → Prop) : Prop := z_C yX11_takes cX11_takes 4 (some .boolean) qX11_takes As I (cqI Q)
theorem eX11_takes {b : Nat} {x0 : Int} {x1 : Int} {x2 : Int} {I : z_M} {Q : Int → z_M → Prop} (k : JX11_takes Q 0 [aR b, aI x0, aI x1, aI x2] [] I) : CX11_takes [aR b, aI x0, aI x1, aI x2] I Q := z_intro (by decide +kernel) 0 (Nat.le_of_ble_eq_true rfl) k
theorem vX11_takes {As : List z_V} {I : z_M} {Q : Int → z_M → Prop} (k : z_CI I → CX11_takes As I Q) : CX11_takes As I Q := fun hC hA => k hC hC hA
theorem lX11_takes {Q : Int → z_M → Prop} {pc : Nat} {ls' ls st : List z_V} {I : z_M} (k : JX11_takes Q pc ls' st I) (h : ∀ (i : Nat) (v : z_V), ls'[i]? = some v → v ≠ aU → ls[i]? = some v) : JX11_takes Q pc ls st I := g_weak h k
def qX11_takesPlace : Room := { frames := 5, cells := 0, slots := 0, locals := 112 }
theorem pdX11_takesPlace : yX11_takesPlace.cls ≠ "java/lang/invoke/MethodHandle" ∧ yX11_takesPlace.cls ≠ "java/lang/invoke/VarHandle" ∧ (parseMethodDescriptor yX11_takesPlace.desc).map (fun d => d.parameters.length) = some 0 := by decide +kernel
abbrev kX11_takesPlace : z_Mt := z_mt yX11_takesPlace.cls cX11_takesPlace 1 (some .boolean) qX11_takesPlace
def JX11_takesPlace (Q : Int → z_M → Prop) (pc : Nat) (ls st : List z_V) (I : z_M) : Prop := z_R kX11_takesPlace (z_fin (cqI Q)) pc ls st I
def CX11_takesPlace (As : List z_V) (I : z_M) (Q : Int → z_M → Prop) : Prop := z_C yX11_takesPlace cX11_takesPlace 1 (some .boolean) qX11_takesPlace As I (cqI Q)
theorem eX11_takesPlace {b : Nat} {I : z_M} {Q : Int → z_M → Prop} (k : JX11_takesPlace Q 0 [aR b] [] I) : CX11_takesPlace [aR b] I Q := z_intro (by decide +kernel) 0 (Nat.le_of_ble_eq_true rfl) k
theorem vX11_takesPlace {As : List z_V} {I : z_M} {Q : Int → z_M → Prop} (k : z_CI I → CX11_takesPlace As I Q) : CX11_takesPlace As I Q := fun hC hA => k hC hC hA
theorem lX11_takesPlace {Q : Int → z_M → Prop} {pc : Nat} {ls' ls st : List z_V} {I : z_M} (k : JX11_takesPlace Q pc ls' st I) (h : ∀ (i : Nat) (v : z_V), ls'[i]? = some v → v ≠ aU → ls[i]? = some v) : JX11_takesPlace Q pc ls st I := g_weak h k
def qX11_takesPipe : Room := { frames := 5, cells := 0, slots := 0, locals := 112 }
theorem pdX11_takesPipe : yX11_takesPipe.cls ≠ "java/lang/invoke/MethodHandle" ∧ yX11_takesPipe.cls ≠ "java/lang/invoke/VarHandle" ∧ (parseMethodDescriptor yX11_takesPipe.desc).map (fun d => d.parameters.length) = some 0 := by decide +kernel
abbrev kX11_takesPipe : z_Mt := z_mt yX11_takesPipe.cls cX11_takesPipe 1 (some .boolean) qX11_takesPipe
def JX11_takesPipe (Q : Int → z_M → Prop) (pc : Nat) (ls st : List z_V) (I : z_M) : Prop := z_R kX11_takesPipe (z_fin (cqI Q)) pc ls st I
def CX11_takesPipe (As : List z_V) (I : z_M) (Q : Int → z_M → Prop) : Prop := z_C yX11_takesPipe cX11_takesPipe 1 (some .boolean) qX11_takesPipe As I (cqI Q)
theorem eX11_takesPipe {b : Nat} {I : z_M} {Q : Int → z_M → Prop} (k : JX11_takesPipe Q 0 [aR b] [] I) : CX11_takesPipe [aR b] I Q := z_intro (by decide +kernel) 0 (Nat.le_of_ble_eq_true rfl) k
theorem vX11_takesPipe {As : List z_V} {I : z_M} {Q : Int → z_M → Prop} (k : z_CI I → CX11_takesPipe As I Q) : CX11_takesPipe As I Q := fun hC hA => k hC hC hA
theorem lX11_takesPipe {Q : Int → z_M → Prop} {pc : Nat} {ls' ls st : List z_V} {I : z_M} (k : JX11_takesPipe Q pc ls' st I) (h : ∀ (i : Nat) (v : z_V), ls'[i]? = some v → v ≠ aU → ls[i]? = some v) : JX11_takesPipe Q pc ls st I := g_weak h k
def qX11_takesHymn : Room := { frames := 5, cells := 0, slots := 0, locals := 112 }
theorem pdX11_takesHymn : yX11_takesHymn.cls ≠ "java/lang/invoke/MethodHandle" ∧ yX11_takesHymn.cls ≠ "java/lang/invoke/VarHandle" ∧ (parseMethodDescriptor yX11_takesHymn.desc).map (fun d => d.parameters.length) = some 0 := by decide +kernel
abbrev kX11_takesHymn : z_Mt := z_mt yX11_takesHymn.cls cX11_takesHymn 2 (some .boolean) qX11_takesHymn
def JX11_takesHymn (Q : Int → z_M → Prop) (pc : Nat) (ls st : List z_V) (I : z_M) : Prop := z_R kX11_takesHymn (z_fin (cqI Q)) pc ls st I
def CX11_takesHymn (As : List z_V) (I : z_M) (Q : Int → z_M → Prop) : Prop := z_C yX11_takesHymn cX11_takesHymn 2 (some .boolean) qX11_takesHymn As I (cqI Q)
theorem eX11_takesHymn {b : Nat} {I : z_M} {Q : Int → z_M → Prop} (k : JX11_takesHymn Q 0 [aR b, aU] [] I) : CX11_takesHymn [aR b] I Q := z_intro (by decide +kernel) 1 (Nat.le_of_ble_eq_true rfl) k
theorem vX11_takesHymn {As : List z_V} {I : z_M} {Q : Int → z_M → Prop} (k : z_CI I → CX11_takesHymn As I Q) : CX11_takesHymn As I Q := fun hC hA => k hC hC hA
theorem lX11_takesHymn {Q : Int → z_M → Prop} {pc : Nat} {ls' ls st : List z_V} {I : z_M} (k : JX11_takesHymn Q pc ls' st I) (h : ∀ (i : Nat) (v : z_V), ls'[i]? = some v → v ≠ aU → ls[i]? = some v) : JX11_takesHymn Q pc ls st I := g_weak h k
def qX11_takesItem : Room := { frames := 6, cells := 0, slots := 0, locals := 133 }
theorem pdX11_takesItem : yX11_takesItem.cls ≠ "java/lang/invoke/MethodHandle" ∧ yX11_takesItem.cls ≠ "java/lang/invoke/VarHandle" ∧ (parseMethodDescriptor yX11_takesItem.desc).map (fun d => d.parameters.length) = some 0 := by decide +kernel
abbrev kX11_takesItem : z_Mt := z_mt yX11_takesItem.cls cX11_takesItem 1 (some .boolean) qX11_takesItem
def JX11_takesItem (Q : Int → z_M → Prop) (pc : Nat) (ls st : List z_V) (I : z_M) : Prop := z_R kX11_takesItem (z_fin (cqI Q)) pc ls st I
def CX11_takesItem (As : List z_V) (I : z_M) (Q : Int → z_M → Prop) : Prop := z_C yX11_takesItem cX11_takesItem 1 (some .boolean) qX11_takesItem As I (cqI Q)
theorem eX11_takesItem {b : Nat} {I : z_M} {Q : Int → z_M → Prop} (k : JX11_takesItem Q 0 [aR b] [] I) : CX11_takesItem [aR b] I Q := z_intro (by decide +kernel) 0 (Nat.le_of_ble_eq_true rfl) k
theorem vX11_takesItem {As : List z_V} {I : z_M} {Q : Int → z_M → Prop} (k : z_CI I → CX11_takesItem As I Q) : CX11_takesItem As I Q := fun hC hA => k hC hC hA
theorem lX11_takesItem {Q : Int → z_M → Prop} {pc : Nat} {ls' ls st : List z_V} {I : z_M} (k : JX11_takesItem Q pc ls' st I) (h : ∀ (i : Nat) (v : z_V), ls'[i]? = some v → v ≠ aU → ls[i]? = some v) : JX11_takesItem Q pc ls st I := g_weak h k
def qX11_read : Room := { frames := 7, cells := 0, slots := 0, locals := 153 }
theorem pdX11_read : yX11_read.cls ≠ "java/lang/invoke/MethodHandle" ∧ yX11_read.cls ≠ "java/lang/invoke/VarHandle" ∧ (parseMethodDescriptor yX11_read.desc).map (fun d => d.parameters.length) = some 0 := by decide +kernel
abbrev kX11_read : z_Mt := z_mt yX11_read.cls cX11_read 3 (some .int) qX11_read
def JX11_read (Q : Int → z_M → Prop) (pc : Nat) (ls st : List z_V) (I : z_M) : Prop := z_R kX11_read (z_fin (cqI Q)) pc ls st I
def CX11_read (As : List z_V) (I : z_M) (Q : Int → z_M → Prop) : Prop := z_C yX11_read cX11_read 3 (some .int) qX11_read As I (cqI Q)
theorem eX11_read {b : Nat} {I : z_M} {Q : Int → z_M → Prop} (k : JX11_read Q 0 [aR b, aU, aU] [] I) : CX11_read [aR b] I Q := z_intro (by decide +kernel) 2 (Nat.le_of_ble_eq_true rfl) k
theorem vX11_read {As : List z_V} {I : z_M} {Q : Int → z_M → Prop} (k : z_CI I → CX11_read As I Q) : CX11_read As I Q := fun hC hA => k hC hC hA
theorem lX11_read {Q : Int → z_M → Prop} {pc : Nat} {ls' ls st : List z_V} {I : z_M} (k : JX11_read Q pc ls' st I) (h : ∀ (i : Nat) (v : z_V), ls'[i]? = some v → v ≠ aU → ls[i]? = some v) : JX11_read Q pc ls st I := g_weak h k
def qX11_part : Room := { frames := 1, cells := 0, slots := 0, locals := 21 }
theorem pdX11_part : yX11_part.cls ≠ "java/lang/invoke/MethodHandle" ∧ yX11_part.cls ≠ "java/lang/invoke/VarHandle" ∧ (parseMethodDescriptor yX11_part.desc).map (fun d => d.parameters.length) = some 1 := by decide +kernel
abbrev kX11_part : z_Mt := z_mt yX11_part.cls cX11_part 2 (some .long) qX11_part
def JX11_part (Q : Int → z_M → Prop) (pc : Nat) (ls st : List z_V) (I : z_M) : Prop := z_R kX11_part (z_fin (cqL Q)) pc ls st I
def CX11_part (As : List z_V) (I : z_M) (Q : Int → z_M → Prop) : Prop := z_C yX11_part cX11_part 2 (some .long) qX11_part As I (cqL Q)
theorem eX11_part {b : Nat} {x0 : Int} {I : z_M} {Q : Int → z_M → Prop} (k : JX11_part Q 0 [aR b, aI x0] [] I) : CX11_part [aR b, aI x0] I Q := z_intro (by decide +kernel) 0 (Nat.le_of_ble_eq_true rfl) k
theorem vX11_part {As : List z_V} {I : z_M} {Q : Int → z_M → Prop} (k : z_CI I → CX11_part As I Q) : CX11_part As I Q := fun hC hA => k hC hC hA
theorem lX11_part {Q : Int → z_M → Prop} {pc : Nat} {ls' ls st : List z_V} {I : z_M} (k : JX11_part Q pc ls' st I) (h : ∀ (i : Nat) (v : z_V), ls'[i]? = some v → v ≠ aU → ls[i]? = some v) : JX11_part Q pc ls st I := g_weak h k
def qX11_image : Room := { frames := 1, cells := 0, slots := 0, locals := 25 }
theorem pdX11_image : yX11_image.cls ≠ "java/lang/invoke/MethodHandle" ∧ yX11_image.cls ≠ "java/lang/invoke/VarHandle" ∧ (parseMethodDescriptor yX11_image.desc).map (fun d => d.parameters.length) = some 1 := by decide +kernel
abbrev kX11_image : z_Mt := z_mt yX11_image.cls cX11_image 3 (some .int) qX11_image
def JX11_image (Q : Int → z_M → Prop) (pc : Nat) (ls st : List z_V) (I : z_M) : Prop := z_R kX11_image (z_fin (cqI Q)) pc ls st I
def CX11_image (As : List z_V) (I : z_M) (Q : Int → z_M → Prop) : Prop := z_C yX11_image cX11_image 3 (some .int) qX11_image As I (cqI Q)
theorem eX11_image {b : Nat} {x0 : Int} {I : z_M} {Q : Int → z_M → Prop} (k : JX11_image Q 0 [aR b, aI x0, aU] [] I) : CX11_image [aR b, aI x0] I Q := z_intro (by decide +kernel) 1 (Nat.le_of_ble_eq_true rfl) k
theorem vX11_image {As : List z_V} {I : z_M} {Q : Int → z_M → Prop} (k : z_CI I → CX11_image As I Q) : CX11_image As I Q := fun hC hA => k hC hC hA
theorem lX11_image {Q : Int → z_M → Prop} {pc : Nat} {ls' ls st : List z_V} {I : z_M} (k : JX11_image Q pc ls' st I) (h : ∀ (i : Nat) (v : z_V), ls'[i]? = some v → v ≠ aU → ls[i]? = some v) : JX11_image Q pc ls st I := g_weak h k
def qX11_from : Room := { frames := 1, cells := 0, slots := 0, locals := 25 }
theorem pdX11_from : yX11_from.cls ≠ "java/lang/invoke/MethodHandle" ∧ yX11_from.cls ≠ "java/lang/invoke/VarHandle" ∧ (parseMethodDescriptor yX11_from.desc).map (fun d => d.parameters.length) = some 1 := by decide +kernel
abbrev kX11_from : z_Mt := z_mt yX11_from.cls cX11_from 3 (some .int) qX11_from
def JX11_from (Q : Int → z_M → Prop) (pc : Nat) (ls st : List z_V) (I : z_M) : Prop := z_R kX11_from (z_fin (cqI Q)) pc ls st I
def CX11_from (As : List z_V) (I : z_M) (Q : Int → z_M → Prop) : Prop := z_C yX11_from cX11_from 3 (some .int) qX11_from As I (cqI Q)
theorem eX11_from {b : Nat} {x0 : Int} {I : z_M} {Q : Int → z_M → Prop} (k : JX11_from Q 0 [aR b, aI x0, aU] [] I) : CX11_from [aR b, aI x0] I Q := z_intro (by decide +kernel) 1 (Nat.le_of_ble_eq_true rfl) k
theorem vX11_from {As : List z_V} {I : z_M} {Q : Int → z_M → Prop} (k : z_CI I → CX11_from As I Q) : CX11_from As I Q := fun hC hA => k hC hC hA
theorem lX11_from {Q : Int → z_M → Prop} {pc : Nat} {ls' ls st : List z_V} {I : z_M} (k : JX11_from Q pc ls' st I) (h : ∀ (i : Nat) (v : z_V), ls'[i]? = some v → v ≠ aU → ls[i]? = some v) : JX11_from Q pc ls st I := g_weak h k
def qX11_status : Room := { frames := 1, cells := 0, slots := 0, locals := 25 }
theorem pdX11_status : yX11_status.cls ≠ "java/lang/invoke/MethodHandle" ∧ yX11_status.cls ≠ "java/lang/invoke/VarHandle" ∧ (parseMethodDescriptor yX11_status.desc).map (fun d => d.parameters.length) = some 1 := by decide +kernel
abbrev kX11_status : z_Mt := z_mt yX11_status.cls cX11_status 2 (some .int) qX11_status
def JX11_status (Q : Int → z_M → Prop) (pc : Nat) (ls st : List z_V) (I : z_M) : Prop := z_R kX11_status (z_fin (cqI Q)) pc ls st I
def CX11_status (As : List z_V) (I : z_M) (Q : Int → z_M → Prop) : Prop := z_C yX11_status cX11_status 2 (some .int) qX11_status As I (cqI Q)
theorem eX11_status {b : Nat} {x0 : Int} {I : z_M} {Q : Int → z_M → Prop} (k : JX11_status Q 0 [aR b, aI x0] [] I) : CX11_status [aR b, aI x0] I Q := z_intro (by decide +kernel) 0 (Nat.le_of_ble_eq_true rfl) k
theorem vX11_status {As : List z_V} {I : z_M} {Q : Int → z_M → Prop} (k : z_CI I → CX11_status As I Q) : CX11_status As I Q := fun hC hA => k hC hC hA
theorem lX11_status {Q : Int → z_M → Prop} {pc : Nat} {ls' ls st : List z_V} {I : z_M} (k : JX11_status Q pc ls' st I) (h : ∀ (i : Nat) (v : z_V), ls'[i]? = some v → v ≠ aU → ls[i]? = some v) : JX11_status Q pc ls st I := g_weak h k
def qX11_counted : Room := { frames := 3, cells := 0, slots := 0, locals := 63 }
theorem pdX11_counted : yX11_counted.cls ≠ "java/lang/invoke/MethodHandle" ∧ yX11_counted.cls ≠ "java/lang/invoke/VarHandle" ∧ (parseMethodDescriptor yX11_counted.desc).map (fun d => d.parameters.length) = some 1 := by decide +kernel
abbrev kX11_counted : z_Mt := z_mt yX11_counted.cls cX11_counted 2 (some .int) qX11_counted
def JX11_counted (Q : Int → z_M → Prop) (pc : Nat) (ls st : List z_V) (I : z_M) : Prop := z_R kX11_counted (z_fin (cqI Q)) pc ls st I
def CX11_counted (As : List z_V) (I : z_M) (Q : Int → z_M → Prop) : Prop := z_C yX11_counted cX11_counted 2 (some .int) qX11_counted As I (cqI Q)
theorem eX11_counted {b : Nat} {x0 : Int} {I : z_M} {Q : Int → z_M → Prop} (k : JX11_counted Q 0 [aR b, aI x0] [] I) : CX11_counted [aR b, aI x0] I Q := z_intro (by decide +kernel) 0 (Nat.le_of_ble_eq_true rfl) k
theorem vX11_counted {As : List z_V} {I : z_M} {Q : Int → z_M → Prop} (k : z_CI I → CX11_counted As I Q) : CX11_counted As I Q := fun hC hA => k hC hC hA
theorem lX11_counted {Q : Int → z_M → Prop} {pc : Nat} {ls' ls st : List z_V} {I : z_M} (k : JX11_counted Q pc ls' st I) (h : ∀ (i : Nat) (v : z_V), ls'[i]? = some v → v ≠ aU → ls[i]? = some v) : JX11_counted Q pc ls st I := g_weak h k
def qX11_count : Room := { frames := 4, cells := 0, slots := 0, locals := 84 }
theorem pdX11_count : yX11_count.cls ≠ "java/lang/invoke/MethodHandle" ∧ yX11_count.cls ≠ "java/lang/invoke/VarHandle" ∧ (parseMethodDescriptor yX11_count.desc).map (fun d => d.parameters.length) = some 1 := by decide +kernel
abbrev kX11_count : z_Mt := z_mt yX11_count.cls cX11_count 2 (some .int) qX11_count
def JX11_count (Q : Int → z_M → Prop) (pc : Nat) (ls st : List z_V) (I : z_M) : Prop := z_R kX11_count (z_fin (cqI Q)) pc ls st I
def CX11_count (As : List z_V) (I : z_M) (Q : Int → z_M → Prop) : Prop := z_C yX11_count cX11_count 2 (some .int) qX11_count As I (cqI Q)
theorem eX11_count {b : Nat} {x0 : Int} {I : z_M} {Q : Int → z_M → Prop} (k : JX11_count Q 0 [aR b, aI x0] [] I) : CX11_count [aR b, aI x0] I Q := z_intro (by decide +kernel) 0 (Nat.le_of_ble_eq_true rfl) k
theorem vX11_count {As : List z_V} {I : z_M} {Q : Int → z_M → Prop} (k : z_CI I → CX11_count As I Q) : CX11_count As I Q := fun hC hA => k hC hC hA
theorem lX11_count {Q : Int → z_M → Prop} {pc : Nat} {ls' ls st : List z_V} {I : z_M} (k : JX11_count Q pc ls' st I) (h : ∀ (i : Nat) (v : z_V), ls'[i]? = some v → v ≠ aU → ls[i]? = some v) : JX11_count Q pc ls st I := g_weak h k
def qX11_sums : Room := { frames := 0, cells := 0, slots := 0, locals := 0 }
theorem pdX11_sums : yX11_sums.cls ≠ "java/lang/invoke/MethodHandle" ∧ yX11_sums.cls ≠ "java/lang/invoke/VarHandle" ∧ (parseMethodDescriptor yX11_sums.desc).map (fun d => d.parameters.length) = some 3 := by decide +kernel
abbrev kX11_sums : z_Mt := z_mt yX11_sums.cls cX11_sums 8 (some .long) qX11_sums
def JX11_sums (Q : Int → z_M → Prop) (pc : Nat) (ls st : List z_V) (I : z_M) : Prop := z_R kX11_sums (z_fin (cqL Q)) pc ls st I
def CX11_sums (As : List z_V) (I : z_M) (Q : Int → z_M → Prop) : Prop := z_C yX11_sums cX11_sums 8 (some .long) qX11_sums As I (cqL Q)
theorem eX11_sums {b : Nat} {x0 : Int} {x1 : Int} {x2 : Int} {I : z_M} {Q : Int → z_M → Prop} (k : JX11_sums Q 0 [aR b, aL x0, aU, aI x1, aI x2, aU, aU, aU] [] I) : CX11_sums [aR b, aL x0, aI x1, aI x2] I Q := z_intro (by decide +kernel) 3 (Nat.le_of_ble_eq_true rfl) k
theorem vX11_sums {As : List z_V} {I : z_M} {Q : Int → z_M → Prop} (k : z_CI I → CX11_sums As I Q) : CX11_sums As I Q := fun hC hA => k hC hC hA
theorem lX11_sums {Q : Int → z_M → Prop} {pc : Nat} {ls' ls st : List z_V} {I : z_M} (k : JX11_sums Q pc ls' st I) (h : ∀ (i : Nat) (v : z_V), ls'[i]? = some v → v ≠ aU → ls[i]? = some v) : JX11_sums Q pc ls st I := g_weak h k
def qX11_digest : Room := { frames := 4, cells := 0, slots := 0, locals := 84 }
theorem pdX11_digest : yX11_digest.cls ≠ "java/lang/invoke/MethodHandle" ∧ yX11_digest.cls ≠ "java/lang/invoke/VarHandle" ∧ (parseMethodDescriptor yX11_digest.desc).map (fun d => d.parameters.length) = some 0 := by decide +kernel
abbrev kX11_digest : z_Mt := z_mt yX11_digest.cls cX11_digest 4 (some .long) qX11_digest
def JX11_digest (Q : Int → z_M → Prop) (pc : Nat) (ls st : List z_V) (I : z_M) : Prop := z_R kX11_digest (z_fin (cqL Q)) pc ls st I
def CX11_digest (As : List z_V) (I : z_M) (Q : Int → z_M → Prop) : Prop := z_C yX11_digest cX11_digest 4 (some .long) qX11_digest As I (cqL Q)
theorem eX11_digest {b : Nat} {I : z_M} {Q : Int → z_M → Prop} (k : JX11_digest Q 0 [aR b, aU, aU, aU] [] I) : CX11_digest [aR b] I Q := z_intro (by decide +kernel) 3 (Nat.le_of_ble_eq_true rfl) k
theorem vX11_digest {As : List z_V} {I : z_M} {Q : Int → z_M → Prop} (k : z_CI I → CX11_digest As I Q) : CX11_digest As I Q := fun hC hA => k hC hC hA
theorem lX11_digest {Q : Int → z_M → Prop} {pc : Nat} {ls' ls st : List z_V} {I : z_M} (k : JX11_digest Q pc ls' st I) (h : ∀ (i : Nat) (v : z_V), ls'[i]? = some v → v ≠ aU → ls[i]? = some v) : JX11_digest Q pc ls st I := g_weak h k
def qJ6_bitCount_0f7a4 : Room := { frames := 0, cells := 0, slots := 0, locals := 0 }
theorem pdJ6_bitCount_0f7a4 : yJ6_bitCount_0f7a4.cls ≠ "java/lang/invoke/MethodHandle" ∧ yJ6_bitCount_0f7a4.cls ≠ "java/lang/invoke/VarHandle" ∧ (parseMethodDescriptor yJ6_bitCount_0f7a4.desc).map (fun d => d.parameters.length) = some 1 := by decide +kernel
abbrev kJ6_bitCount_0f7a4 : z_Mt := z_mt yJ6_bitCount_0f7a4.cls cJ6_bitCount_0f7a4 1 (some .int) qJ6_bitCount_0f7a4
def JJ6_bitCount_0f7a4 (Q : Int → z_M → Prop) (pc : Nat) (ls st : List z_V) (I : z_M) : Prop := z_R kJ6_bitCount_0f7a4 (z_fin (cqI Q)) pc ls st I
def CJ6_bitCount_0f7a4 (As : List z_V) (I : z_M) (Q : Int → z_M → Prop) : Prop := z_C yJ6_bitCount_0f7a4 cJ6_bitCount_0f7a4 1 (some .int) qJ6_bitCount_0f7a4 As I (cqI Q)
theorem eJ6_bitCount_0f7a4 {x0 : Int} {I : z_M} {Q : Int → z_M → Prop} (k : JJ6_bitCount_0f7a4 Q 0 [aI x0] [] I) : CJ6_bitCount_0f7a4 [aI x0] I Q := z_intro (by decide +kernel) 0 (Nat.le_of_ble_eq_true rfl) k
theorem vJ6_bitCount_0f7a4 {As : List z_V} {I : z_M} {Q : Int → z_M → Prop} (k : z_CI I → CJ6_bitCount_0f7a4 As I Q) : CJ6_bitCount_0f7a4 As I Q := fun hC hA => k hC hC hA
theorem lJ6_bitCount_0f7a4 {Q : Int → z_M → Prop} {pc : Nat} {ls' ls st : List z_V} {I : z_M} (k : JJ6_bitCount_0f7a4 Q pc ls' st I) (h : ∀ (i : Nat) (v : z_V), ls'[i]? = some v → v ≠ aU → ls[i]? = some v) : JJ6_bitCount_0f7a4 Q pc ls st I := g_weak h k
def qJ0_length_8abf5 : Room := { frames := 1, cells := 0, slots := 0, locals := 20 }
theorem pdJ0_length_8abf5 : yJ0_length_8abf5.cls ≠ "java/lang/invoke/MethodHandle" ∧ yJ0_length_8abf5.cls ≠ "java/lang/invoke/VarHandle" ∧ (parseMethodDescriptor yJ0_length_8abf5.desc).map (fun d => d.parameters.length) = some 0 := by decide +kernel
abbrev kJ0_length_8abf5 : z_Mt := z_mt yJ0_length_8abf5.cls cJ0_length_8abf5 1 (some .int) qJ0_length_8abf5
def JJ0_length_8abf5 (Q : Int → z_M → Prop) (pc : Nat) (ls st : List z_V) (I : z_M) : Prop := z_R kJ0_length_8abf5 (z_fin (cqI Q)) pc ls st I
def CJ0_length_8abf5 (As : List z_V) (I : z_M) (Q : Int → z_M → Prop) : Prop := z_C yJ0_length_8abf5 cJ0_length_8abf5 1 (some .int) qJ0_length_8abf5 As I (cqI Q)
def qJ0_charAt_5068e : Room := { frames := 3, cells := 0, slots := 0, locals := 64 }
theorem pdJ0_charAt_5068e : yJ0_charAt_5068e.cls ≠ "java/lang/invoke/MethodHandle" ∧ yJ0_charAt_5068e.cls ≠ "java/lang/invoke/VarHandle" ∧ (parseMethodDescriptor yJ0_charAt_5068e.desc).map (fun d => d.parameters.length) = some 1 := by decide +kernel
abbrev kJ0_charAt_5068e : z_Mt := z_mt yJ0_charAt_5068e.cls cJ0_charAt_5068e 2 (some .char) qJ0_charAt_5068e
def JJ0_charAt_5068e (Q : Int → z_M → Prop) (pc : Nat) (ls st : List z_V) (I : z_M) : Prop := z_R kJ0_charAt_5068e (z_fin (cqI Q)) pc ls st I
def CJ0_charAt_5068e (As : List z_V) (I : z_M) (Q : Int → z_M → Prop) : Prop := z_C yJ0_charAt_5068e cJ0_charAt_5068e 2 (some .char) qJ0_charAt_5068e As I (cqI Q)
