/-! PURE: the organ's row (the reference's order of numbers), a stage, an hour -/
def z_any (c : Nat → Bool) : Nat → Bool
  | 0 => false
  | n + 1 => z_any c n || c n
theorem z_any_f {c : Nat → Bool} : ∀ {n : Nat}, z_any c n = false ↔ ∀ j, j < n → c j = false
  | 0 => ⟨fun _ j hj => absurd hj (Nat.not_lt_zero j), fun _ => rfl⟩
  | n + 1 => by
    unfold z_any
    rw [Bool.or_eq_false_iff, z_any_f]
    constructor
    · intro h j hj
      rcases Nat.lt_succ_iff_lt_or_eq.mp hj with h1 | h1
      · exact h.1 j h1
      · rw [h1]; exact h.2
    · intro h
      exact ⟨fun j hj => h j (by omega), h n (by omega)⟩
theorem z_any_t {c : Nat → Bool} {n i : Nat} (hi : i < n) (h : c i = true) : z_any c n = true := by
  cases e : z_any c n with
  | true => rfl
  | false => rw [z_any_f.mp e i hi] at h; cases h
theorem z_any_of {c : Nat → Bool} : ∀ {n : Nat}, z_any c n = true → ∃ i, i < n ∧ c i = true
  | 0, h => by cases h
  | n + 1, h => by
    unfold z_any at h
    rcases Bool.or_eq_true_iff.mp h with h | h
    · obtain ⟨i, h1, h2⟩ := z_any_of h
      exact ⟨i, by omega, h2⟩
    · exact ⟨n, by omega, h⟩
/-- the first of n that is so; -1 -/
def z_fst (c : Nat → Bool) : Nat → Int
  | 0 => -1
  | n + 1 => if z_any c n then z_fst c n else if c n then (n : Int) else -1
theorem z_fst_none {c : Nat → Bool} : ∀ {n : Nat}, z_any c n = false → z_fst c n = -1
  | 0, _ => rfl
  | n + 1, h => by
    have h1 := z_any_f.mp h
    unfold z_fst
    rw [z_any_f.mpr (fun j hj => h1 j (by omega)), h1 n (by omega)]
    rfl
theorem z_fst_hit {c : Nat → Bool} {i : Nat} (h0 : z_any c i = false) (h1 : c i = true) : ∀ {n : Nat}, i < n → z_fst c n = i
  | 0, h => absurd h (Nat.not_lt_zero i)
  | n + 1, h => by
    unfold z_fst
    rcases Nat.lt_succ_iff_lt_or_eq.mp h with h2 | h2
    · rw [z_any_t h2 h1, if_pos rfl]
      exact z_fst_hit h0 h1 h2
    · subst h2
      rw [h0, h1]
      rfl
theorem z_fst_in (c : Nat → Bool) : ∀ n : Nat, -1 ≤ z_fst c n ∧ z_fst c n < n
  | 0 => by
    have h : z_fst c 0 = -1 := rfl
    omega
  | n + 1 => by
    have := z_fst_in c n
    unfold z_fst
    split
    · omega
    · split <;> omega
theorem z_any_congr {c d : Nat → Bool} : ∀ {n : Nat}, (∀ j, j < n → c j = d j) → z_any c n = z_any d n
  | 0, _ => rfl
  | n + 1, h => by
    unfold z_any
    rw [z_any_congr (fun j hj => h j (by omega)), h n (by omega)]
theorem z_bs_0 {c : Nat → Bool} {n : Nat} : z_bs c n = 0 ↔ z_any c n = false := by
  induction n with
  | zero => simp [z_bs, z_any]
  | succ n ih =>
    unfold z_bs z_any
    rw [Bool.or_eq_false_iff, ← ih]
    have := Nat.two_pow_pos n
    cases c n <;> simp <;> omega
theorem z_tm24 (x : Int) : -24 < x.tmod 24 ∧ x.tmod 24 < 24 := tmod_bounds (by decide)
def zu (f : Nat → Int) (k : Nat) (v : Int) : Nat → Int := fun j => if j = k then v else f j
theorem zu_s {f : Nat → Int} {k : Nat} {v : Int} : zu f k v k = v := by simp [zu]
theorem zu_n {f : Nat → Int} {k j : Nat} {v : Int} (h : j ≠ k) : zu f k v j = f j := by simp [zu, h]
theorem z_up_s {I : z_M} {k j : Nat} {v : Int} : z_up I k j v k = zu (I k) j v := by
  funext b
  simp [z_up, zu]
theorem z_up_n {I : z_M} {k j a : Nat} {v : Int} (h : a ≠ k) : z_up I k j v a = I a := by
  funext b
  simp [z_up, h]
/-- an organ's row: P pipes, L places -/
def wfA (A : Nat → Int) (P L : Nat) : Prop := A 0 = P ∧ A 1 = L ∧ P ≤ 8 ∧ L ≤ 5 ∧ (∀ x, x < L → (0 ≤ A (5 + 5 * x) ∧ A (5 + 5 * x) ≤ 11) ∧ (0 ≤ A (5 + 5 * x + 1) ∧ A (5 + 5 * x + 1) ≤ 23) ∧ (0 ≤ A (5 + 5 * x + 2) ∧ A (5 + 5 * x + 2) ≤ 24) ∧ (0 ≤ A (5 + 5 * x + 3) ∧ A (5 + 5 * x + 3) ≤ 30) ∧ (0 ≤ A (5 + 5 * x + 4) ∧ A (5 + 5 * x + 4) ≤ 30)) ∧ (∀ p, p < P → (0 ≤ A (30 + 4 * p) ∧ A (30 + 4 * p) ≤ 5) ∧ (0 ≤ A (30 + 4 * p + 1) ∧ A (30 + 4 * p + 1) ≤ 35))
/-- kinds and wheres in range, none away at home -/
def wfS (P L : Nat) (K W Y : Nat → Int) : Prop := ∀ p, p < P → (0 ≤ K p ∧ K p ≤ 5) ∧ (-1 ≤ W p ∧ W p < L) ∧ (W p = -1 → Y p = 0)
def pWish (A : Nat → Int) (hr : Int) (x : Nat) : Bool := decide ((hr.tmod 24 + 24 - A (5 + 5 * x + 1)).tmod 24 < A (5 + 5 * x + 2))
def pNight (hr : Int) : Bool := decide (18 ≤ hr.tmod 24 ∨ hr.tmod 24 < 6)
def pOther (P : Nat) (W : Nat → Int) (p : Nat) : Bool := z_any (fun o => decide (o ≠ p ∧ W o ≠ -1)) P
def pGo (P : Nat) (hr : Int) (K W : Nat → Int) (p : Nat) : Bool := if K p = 2 then pOther P W p else if K p = 3 then pNight hr else if K p = 5 then pOther P W p && pNight hr else true
def pBack (A : Nat → Int) (hr : Int) (K W Y : Nat → Int) (p : Nat) : Bool :=
  if K p = 1 ∨ K p = 3 then !pWish A hr (W p).toNat && decide (2 < Y p) else if K p = 4 then !pWish A hr (W p).toNat || decide (1 < Y p) else if K p = 5 then false else !pWish A hr (W p).toNat
def pTaken (P : Nat) (W : Nat → Int) (x : Nat) : Bool := z_any (fun o => decide (W o = (x : Int))) P
def pFor (A : Nat → Int) (P L : Nat) (hr : Int) (W tn : Nat → Int) (p : Nat) : Int := z_fst (fun x => decide (tn x = (A (30 + 4 * p + 1)).tmod 12) && (pWish A hr x && !pTaken P W x)) L
/-- one pipe's turn -/
def pStep (A : Nat → Int) (P L : Nat) (hr : Int) (K tn : Nat → Int) (p : Nat) (s : (Nat → Int) × (Nat → Int)) : (Nat → Int) × (Nat → Int) :=
  if s.1 p = -1 then (if pGo P hr K s.1 p then (zu s.1 p (pFor A P L hr s.1 tn p), s.2) else s)
  else (if pBack A hr K s.1 (zu s.2 p (i32 (s.2 p + 1))) p then (zu s.1 p (-1), zu (zu s.2 p (i32 (s.2 p + 1))) p 0) else (s.1, zu s.2 p (i32 (s.2 p + 1))))
def pTurns (A : Nat → Int) (P L : Nat) (hr : Int) (K tn : Nat → Int) (s : (Nat → Int) × (Nat → Int)) : Nat → (Nat → Int) × (Nat → Int)
  | 0 => s
  | p + 1 => pStep A P L hr K tn p (pTurns A P L hr K tn s p)
/-- an hour: hr is the hour behind it -/
def pHour (A : Nat → Int) (P L : Nat) (K tn : Nat → Int) (s : Int × (Nat → Int) × (Nat → Int)) : Int × (Nat → Int) × (Nat → Int) := (i32 (s.1 + 1), pTurns A P L (i32 (s.1 + 1)) K tn s.2 P)
def pHours (A : Nat → Int) (P L : Nat) (K tn : Nat → Int) (s : Int × (Nat → Int) × (Nat → Int)) : Nat → Int × (Nat → Int) × (Nat → Int)
  | 0 => s
  | n + 1 => pHour A P L K tn (pHours A P L K tn s n)
theorem wfS_step {A : Nat → Int} {P L : Nat} {hr : Int} {K tn : Nat → Int} {p : Nat} {s : (Nat → Int) × (Nat → Int)} (h : wfS P L K s.1 s.2) : wfS P L K (pStep A P L hr K tn p s).1 (pStep A P L hr K tn p s).2 := by
  intro q hq
  obtain ⟨h1, h2, h3⟩ := h q hq
  refine ⟨h1, ?_⟩
  unfold pStep
  split
  · rename_i hp
    split
    · by_cases e : q = p
      · subst e
        dsimp only
        rw [zu_s]
        have := z_fst_in (fun x => decide (tn x = (A (30 + 4 * q + 1)).tmod 12) && (pWish A hr x && !pTaken P s.1 x)) L
        exact ⟨this, fun _ => h3 hp⟩
      · dsimp only
        rw [zu_n e]
        exact ⟨h2, h3⟩
    · exact ⟨h2, h3⟩
  · rename_i hp
    split
    · by_cases e : q = p
      · subst e
        dsimp only
        rw [zu_s, zu_s]
        exact ⟨by omega, fun _ => rfl⟩
      · dsimp only
        rw [zu_n e, zu_n e, zu_n e]
        exact ⟨h2, h3⟩
    · by_cases e : q = p
      · subst e
        exact ⟨h2, fun z => absurd z hp⟩
      · dsimp only
        rw [zu_n e]
        exact ⟨h2, h3⟩
theorem wfS_turns {A : Nat → Int} {P L : Nat} {hr : Int} {K tn : Nat → Int} {s : (Nat → Int) × (Nat → Int)} (h : wfS P L K s.1 s.2) : ∀ n, wfS P L K (pTurns A P L hr K tn s n).1 (pTurns A P L hr K tn s n).2
  | 0 => h
  | n + 1 => wfS_step (wfS_turns h n)
theorem wfS_hours {A : Nat → Int} {P L : Nat} {K tn : Nat → Int} {s : Int × (Nat → Int) × (Nat → Int)} (h : wfS P L K s.2.1 s.2.2) : ∀ n, wfS P L K (pHours A P L K tn s n).2.1 (pHours A P L K tn s n).2.2
  | 0 => h
  | n + 1 => wfS_turns (wfS_hours h n) P
