/-! walk: orders of places are orders of numbers, told by a growing list -/
theorem pv_e {e o : Nat → Nat} : ∀ n, (∀ a b, a ≤ n → b ≤ n → (e (o a) < e (o b) ↔ o a < o b)) → pv (fun t => e (o t)) n = pv o n
  | 0, _ => rfl
  | n + 1, h => by
    show (if e (o (n + 1)) < e (o n) then pv (fun t => e (o t)) n else (n : Int)) = if o (n + 1) < o n then pv o n else (n : Int)
    exact z_ite (h (n + 1) n (by omega) (by omega)) (fun _ => pv_e n (fun a b ha hb => h a b (by omega) (by omega))) (fun _ => rfl)
theorem js_e {e o : Nat → Nat} {i : Nat} : ∀ n, i ≤ n → (∀ a b, a ≤ n → b ≤ n → (e (o a) < e (o b) ↔ o a < o b)) → js (fun t => e (o t)) i n = js o i n
  | 0, _, _ => rfl
  | n + 1, hi, h => by
    show (if e (o (n + 1)) < e (o i) then js (fun t => e (o t)) i n else n + 1) = if o (n + 1) < o i then js o i n else n + 1
    refine z_ite (h (n + 1) i (by omega) hi) (fun q => ?_) (fun _ => rfl)
    have : i ≤ n := by
      apply Decidable.byContradiction
      intro w
      have : i = n + 1 := by omega
      subst this
      omega
    exact js_e n this (fun a b ha hb => h a b (by omega) (by omega))
theorem sw_e {e o : Nat → Nat} {i j : Nat} : sw (fun t => e (o t)) i j = fun t => e (sw o i j t) := by
  funext t
  unfold sw
  split
  · rfl
  · split <;> rfl
theorem rv_e {e : Nat → Nat} : ∀ (f a b : Nat) (o : Nat → Nat), rv f (fun t => e (o t)) a b = fun t => e (rv f o a b t)
  | 0, _, _, _ => rfl
  | f + 1, a, b, o => by
    unfold rv
    split
    · rw [sw_e, rv_e f (a + 1) (b - 1) (sw o a b)]
    · rfl
theorem nx_e {e o : Nat → Nat} {k i : Nat} (hi : i ≤ k - 1) (h : ∀ a b, a ≤ k - 1 → b ≤ k - 1 → (e (o a) < e (o b) ↔ o a < o b)) : nx k (fun t => e (o t)) i = fun t => e (nx k o i t) := by
  unfold nx
  rw [js_e (k - 1) hi h, sw_e, rv_e]
