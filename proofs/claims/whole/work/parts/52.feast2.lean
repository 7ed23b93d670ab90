/-! feast: products over the missing notes, the class' side -/
section PV
variable {I I' : z_M} {b c : Nat} {A A' : Nat → Int} {P L : Nat}
theorem z_prod_le {f g : Nat → Nat} : ∀ n, (∀ i, i < n → f i ≤ g i) → z_prod f n ≤ z_prod g n
  | 0, _ => Nat.le_refl 1
  | n + 1, h => Nat.mul_le_mul (z_prod_le n (fun i hi => h i (by omega))) (h n (by omega))
theorem z_prod_pw {k : Nat → Nat} : ∀ n, z_prod (fun v => 10 ^ k v) n = 10 ^ z_sum k n
  | 0 => rfl
  | n + 1 => by rw [z_prod, z_sum, z_prod_pw n, Nat.pow_add]
def nT (A : Nat → Int) (p : Nat) : Nat := (tN A p + 6).toNat
theorem kV_sum {C : Nat → Bool} {nt : Nat → Nat} (h : ∀ p, p < P → nt p < 48) : z_sum (kV C nt P) 48 = z_cnt (fun p => !C p) P := by
  rw [z_cnt_sum, ← z_sum_swap (f := fun p => if (!C p) = true then 1 else 0) (nt := nt) (N := 48) P h]
  refine z_sum_c 48 (fun v _ => ?_)
  unfold kV
  rw [z_cnt_sum]
  refine z_sum_c P (fun p _ => ?_)
  by_cases w : nt p = v
  · rw [if_pos w, decide_eq_true w, Bool.and_true]
  · rw [if_neg w, decide_eq_false w, Bool.and_false]
    rfl
/-- the notes that are missing, of the first n -/
def mD (A : Nat → Int) (P : Nat) (C : Nat → Bool) (x : Nat) (d : Int) (n v : Nat) : Bool := z_any (fun i => decide (A (63 + 9 * x + i) + d + 6 = (v : Int)) && !pPl A P C (A (63 + 9 * x + i) + d)) n
def fG (A : Nat → Int) (P : Nat) (C : Nat → Bool) (x : Nat) (d : Int) (q n : Nat) : Nat := z_prod (fun v => if mD A P C x d n v then gV q (kV C (nT A) P v) true else 1) 48
def fA (A : Nat → Int) (P : Nat) (C : Nat → Bool) (x : Nat) (d : Int) (n : Nat) : Nat := z_prod (fun v => if mD A P C x d n v then 10 ^ kV C (nT A) P v else 1) 48
def fR (A : Nat → Int) (P : Nat) (C : Nat → Bool) (x : Nat) (d : Int) (n : Nat) : Nat := z_prod (fun v => if mD A P C x d n v then 1 else 10 ^ kV C (nT A) P v) 48
theorem fG_R {C : Nat → Bool} {x : Nat} {d : Int} {q n : Nat} : z_prod (fun v => gV q (kV C (nT A) P v) (mD A P C x d n v)) 48 = fG A P C x d q n * fR A P C x d n := by
  unfold fG fR
  rw [← z_prod_mul]
  refine z_prod_c 48 (fun v _ => ?_)
  cases mD A P C x d n v
  · simp [gV]
  · simp
theorem fA_R {C : Nat → Bool} {x : Nat} {d : Int} {n : Nat} (hn : ∀ p, p < P → nT A p < 48) : 10 ^ z_cnt (fun p => !C p) P = fA A P C x d n * fR A P C x d n := by
  unfold fA fR
  rw [← z_prod_mul, ← kV_sum hn, ← z_prod_pw]
  refine z_prod_c 48 (fun v _ => ?_)
  cases mD A P C x d n v <;> simp
theorem fR_pos {C : Nat → Bool} {x : Nat} {d : Int} {n : Nat} : 0 < fR A P C x d n := z_prod_pos 48 (fun v _ => by
  split
  · decide
  · exact Nat.pow_pos (by decide))
theorem fA_pos {C : Nat → Bool} {x : Nat} {d : Int} {n : Nat} : 0 < fA A P C x d n := z_prod_pos 48 (fun v _ => by
  split
  · exact Nat.pow_pos (by decide)
  · decide)
theorem fA_le {C : Nat → Bool} {x : Nat} {d : Int} {n : Nat} (hP : P ≤ 8) (hn : ∀ p, p < P → nT A p < 48) : fA A P C x d n ≤ 100000000 := by
  have h1 := fA_R (C := C) (x := x) (d := d) (n := n) hn
  have h2 : 0 < fR A P C x d n := fR_pos
  have h3 : 10 ^ z_cnt (fun p => !C p) P ≤ 10 ^ 8 := Nat.pow_le_pow_right (by decide) (Nat.le_trans (z_cnt_le _ _) hP)
  have h4 := Nat.le_mul_of_pos_right (fA A P C x d n) h2
  have : (10 : Nat) ^ 8 = 100000000 := by decide
  omega
theorem fG_le {C : Nat → Bool} {x : Nat} {d : Int} {q n : Nat} : fG A P C x d q n ≤ fA A P C x d n := z_prod_le 48 (fun v _ => by
  split
  · unfold gV
    rw [if_pos rfl]
    exact Nat.sub_le _ _
  · exact Nat.le_refl 1)
theorem mD_same {C : Nat → Bool} {x : Nat} {d : Int} {n : Nat} (h : pPl A P C (A (63 + 9 * x + n) + d) = true ∨ ∃ j, j < n ∧ A (63 + 9 * x + j) = A (63 + 9 * x + n)) : mD A P C x d (n + 1) = mD A P C x d n := by
  funext v
  unfold mD
  rw [z_any]
  rcases h with h | ⟨j, hj, e⟩
  · rw [h]
    simp
  · cases w : (decide (A (63 + 9 * x + n) + d + 6 = (v : Int)) && !pPl A P C (A (63 + 9 * x + n) + d))
    · simp
    · rw [z_any_t (c := fun i => decide (A (63 + 9 * x + i) + d + 6 = (v : Int)) && !pPl A P C (A (63 + 9 * x + i) + d)) hj (by rw [e]; exact w)]
      rfl
theorem fX_new {C : Nat → Bool} {x : Nat} {d : Int} {n u : Nat} (F : Nat → Nat) (hu : A (63 + 9 * x + n) + d + 6 = (u : Int)) (hu48 : u < 48) (hm : pPl A P C (A (63 + 9 * x + n) + d) = false) (hf : ∀ j, j < n → A (63 + 9 * x + j) ≠ A (63 + 9 * x + n)) : z_prod (fun v => if mD A P C x d (n + 1) v then F v else 1) 48 = z_prod (fun v => if mD A P C x d n v then F v else 1) 48 * F u := by
  have e1 : mD A P C x d (n + 1) u = true := by
    unfold mD
    exact z_any_t (c := fun i => decide (A (63 + 9 * x + i) + d + 6 = (u : Int)) && !pPl A P C (A (63 + 9 * x + i) + d)) (Nat.lt_succ_self n) (by rw [hm, decide_eq_true hu]; rfl)
  have e0 : mD A P C x d n u = false := by
    unfold mD
    refine z_any_f.mpr (fun j hj => ?_)
    rw [decide_eq_false (fun w => hf j hj (by omega))]
    rfl
  rw [z_prod_x (u := u) 48 hu48, z_prod_x (f := fun v => if mD A P C x d n v then F v else 1) (u := u) 48 hu48, e1, e0]
  simp only [if_true, Bool.false_eq_true, if_false, Nat.mul_one]
  congr 1
  refine z_prod_c 48 (fun v _ => ?_)
  by_cases w : v = u
  · rw [if_pos w, if_pos w]
  · rw [if_neg w, if_neg w]
    have : mD A P C x d (n + 1) v = mD A P C x d n v := by
      unfold mD
      rw [z_any, decide_eq_false (show ¬ (A (63 + 9 * x + n) + d + 6 = (v : Int)) by omega)]
      simp
    rw [this]
theorem kV_away {C : Nat → Bool} {v : Int} (hA : wfA A P L) (hv : -6 ≤ v) : z_cnt (fun p => !C p && decide (tN A p = v)) P = kV C (nT A) P (v + 6).toNat := by
  unfold kV
  refine z_cnt_c P (fun p hp => ?_)
  have := wfA_n hA p hp
  congr 1
  apply decide_eq_decide.mpr
  unfold nT tN
  omega
theorem nT_lt (hA : wfA A P L) : ∀ p, p < P → nT A p < 48 := fun p hp => by
  have := wfA_n hA p hp
  unfold nT tN
  omega
end PV
