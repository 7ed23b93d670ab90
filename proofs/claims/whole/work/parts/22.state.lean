/-! THE TWO SIDES' STATE: an Organ at b holds the row A -/
def rpS (I : z_M) (b : Nat) (A : Nat → Int) (P L : Nat) : Prop :=
  stC I b A P L (A 2) (fun p => A (30 + 4 * p)) (fun p => A (30 + 4 * p + 2)) (fun p => A (30 + 4 * p + 3)) (fun x => A (5 + 5 * x)) ∧ (∀ x, x < L → I (b + 1) (5 * x + 3) = A (5 + 5 * x + 3) ∧ I (b + 1) (5 * x + 4) = A (5 + 5 * x + 4)) ∧ wfA A P L ∧ wfS P L (fun p => A (30 + 4 * p)) (fun p => A (30 + 4 * p + 2)) (fun p => A (30 + 4 * p + 3))
def rpH (I : z_M) (b : Nat) (A : Nat → Int) : Prop :=
  ∀ h, h < 3 → (0 ≤ A (62 + 9 * h) ∧ A (62 + 9 * h) ≤ 8) ∧ I (b + 6) h = A (62 + 9 * h) ∧ ∀ k : Nat, (k : Int) < A (62 + 9 * h) → I (b + 7) (8 * h + k) = A (63 + 9 * h + k) ∧ 0 ≤ A (63 + 9 * h + k) ∧ A (63 + 9 * h + k) ≤ 35
def rpR (I : z_M) (b : Nat) (A : Nat → Int) (P L : Nat) : Prop :=
  (0 ≤ A 3 ∧ A 3 ≤ 6) ∧ I b 3 = A 3 ∧ ∀ t : Nat, (t : Int) < A 3 → (I (b + 8) (4 * t) = A (89 + 4 * t) ∧ I (b + 8) (4 * t + 1) = A (89 + 4 * t + 1) ∧ I (b + 8) (4 * t + 2) = A (89 + 4 * t + 2) ∧ I (b + 8) (4 * t + 3) = A (89 + 4 * t + 3)) ∧ (0 ≤ A (89 + 4 * t) ∧ A (89 + 4 * t) < P) ∧ (0 ≤ A (89 + 4 * t + 1) ∧ A (89 + 4 * t + 1) ≤ 72) ∧ (0 ≤ A (89 + 4 * t + 2) ∧ A (89 + 4 * t + 2) < L) ∧ (A (89 + 4 * t + 3) = 0 ∨ A (89 + 4 * t + 3) = 1)
def rpU (I : z_M) (b : Nat) (A : Nat → Int) (P L : Nat) : Prop :=
  ∃ o U : Nat, o < 8 ∧ U ≤ 8 ∧ I (b + 9) 1 = o ∧ A 4 = U ∧ I (b + 9) 0 = U ∧ ∀ u, u < U → I (b + 10) (17 * ((o + u) % 8)) = A (113 + 17 * u) ∧ ∀ p, p < P → I (b + 10) (17 * ((o + u) % 8) + 1 + p) = A (113 + 17 * u + 1 + p) ∧ I (b + 10) (17 * ((o + u) % 8) + 9 + p) = A (113 + 17 * u + 9 + p) ∧ (-1 ≤ A (113 + 17 * u + 1 + p) ∧ A (113 + 17 * u + 1 + p) < L) ∧ (A (113 + 17 * u + 1 + p) = -1 → A (113 + 17 * u + 9 + p) = 0)
def rp (I : z_M) (b : Nat) (A : Nat → Int) : Prop := ∃ P L : Nat, rpS I b A P L ∧ rpH I b A ∧ rpR I b A P L ∧ rpU I b A P L
def rpT (I : z_M) : Prop := ∃ n : Nat, n ≤ 150 ∧ I 60 16 = n ∧ I 54 0 = n ∧ ∀ k, k < n → I 55 k = I 71 k ∧ 0 ≤ I 71 k ∧ I 71 k ≤ 127
def rpI (I : z_M) : Prop := ∀ i, i < 2 → I 53 i = I 63 i ∧ (I 63 i = 0 ∨ I 63 i = 1) ∧ (I 63 i = 1 → rp I (31 + 11 * i) (fun j => I 62 (249 * i + j)))
def rpF (I : z_M) : Prop := I 0 8 = I 60 4 ∧ I 0 9 = I 60 5 ∧ I 0 10 = I 64 0 ∧ I 0 11 = I 64 1 ∧ I 0 12 = I 64 2
/-- class and reference stand alike -/
def RR (I : z_M) : Prop := rp I 8 (I 61) ∧ rpI I ∧ rpT I ∧ rpF I
theorem stC_cg {I I' : z_M} {b : Nat} {A : Nat → Int} {P L : Nat} {hr : Int} {K W Y tn : Nat → Int} (h : stC I b A P L hr K W Y tn) (e : ∀ k, b ≤ k → k ≤ b + 10 → I' k = I k) : stC I' b A P L hr K W Y tn := by
  obtain ⟨i0, i1, i2, i3, i4⟩ := h
  refine ⟨by rw [e b (by omega) (by omega)]; exact i0, by rw [e b (by omega) (by omega)]; exact i1, by rw [e b (by omega) (by omega)]; exact i2, fun x hx => by rw [e (b + 1) (by omega) (by omega)]; exact i3 x hx, fun p hp => ?_⟩
  rw [e (b + 2) (by omega) (by omega), e (b + 3) (by omega) (by omega), e (b + 4) (by omega) (by omega), e (b + 5) (by omega) (by omega)]
  exact i4 p hp
theorem rp_cg {I I' : z_M} {b : Nat} {A : Nat → Int} (h : rp I b A) (e : ∀ k, b ≤ k → k ≤ b + 10 → I' k = I k) : rp I' b A := by
  obtain ⟨P, L, ⟨s1, s2, s3, s4⟩, hh, hr, o, U, u1, u2, u3, u4, u5, u6⟩ := h
  refine ⟨P, L, ⟨stC_cg s1 e, fun x hx => by rw [e (b + 1) (by omega) (by omega)]; exact s2 x hx, s3, s4⟩, fun h hh3 => ?_, ⟨hr.1, by rw [e b (by omega) (by omega)]; exact hr.2.1, fun t ht => by rw [e (b + 8) (by omega) (by omega)]; exact hr.2.2 t ht⟩, o, U, u1, u2, by rw [e (b + 9) (by omega) (by omega)]; exact u3, u4, by rw [e (b + 9) (by omega) (by omega)]; exact u5, fun u hu => by rw [e (b + 10) (by omega) (by omega)]; exact u6 u hu⟩
  rw [e (b + 6) (by omega) (by omega), e (b + 7) (by omega) (by omega)]
  exact hh h hh3
/-- what calls that tell only leave alone -/
def smC (I I' : z_M) : Prop := (∀ k, k < 19 ∨ (30 ≤ k ∧ k ≤ 53) ∨ k = 55 ∨ 60 ≤ k → I' k = I k) ∧ I' 54 0 = I 54 0
def smM (I I' : z_M) : Prop := (∀ k, k < 60 ∨ (61 ≤ k ∧ k ≤ 64) ∨ k = 71 → I' k = I k) ∧ I' 60 4 = I 60 4 ∧ I' 60 5 = I 60 5 ∧ I' 60 16 = I 60 16
theorem RR_C {I I' : z_M} (h : RR I) (e : smC I I') : RR I' := by
  obtain ⟨h1, h2, ⟨n, t1, t2, t3, t4⟩, f1, f2, f3, f4, f5⟩ := h
  obtain ⟨e1, e2⟩ := e
  refine ⟨?_, fun i hi => ?_, ⟨n, t1, by rw [e1 60 (by omega)]; exact t2, by rw [e2]; exact t3, fun k hk => by rw [e1 55 (by omega), e1 71 (by omega)]; exact t4 k hk⟩, by rw [e1 0 (by omega), e1 60 (by omega)]; exact f1, by rw [e1 0 (by omega), e1 60 (by omega)]; exact f2, by rw [e1 0 (by omega), e1 64 (by omega)]; exact f3, by rw [e1 0 (by omega), e1 64 (by omega)]; exact f4, by rw [e1 0 (by omega), e1 64 (by omega)]; exact f5⟩
  · rw [e1 61 (by omega)]
    exact rp_cg h1 (fun k k1 k2 => e1 k (by omega))
  · rw [e1 53 (by omega), e1 62 (by omega), e1 63 (by omega)]
    obtain ⟨g1, g2, g3⟩ := h2 i hi
    exact ⟨g1, g2, fun z => rp_cg (g3 z) (fun k k1 k2 => e1 k (by omega))⟩
theorem RR_M {I I' : z_M} (h : RR I) (e : smM I I') : RR I' := by
  obtain ⟨h1, h2, ⟨n, t1, t2, t3, t4⟩, f1, f2, f3, f4, f5⟩ := h
  obtain ⟨e1, e2, e3, e4⟩ := e
  refine ⟨?_, fun i hi => ?_, ⟨n, t1, by rw [e4]; exact t2, by rw [e1 54 (by omega)]; exact t3, fun k hk => by rw [e1 55 (by omega), e1 71 (by omega)]; exact t4 k hk⟩, by rw [e1 0 (by omega), e2]; exact f1, by rw [e1 0 (by omega), e3]; exact f2, by rw [e1 0 (by omega), e1 64 (by omega)]; exact f3, by rw [e1 0 (by omega), e1 64 (by omega)]; exact f4, by rw [e1 0 (by omega), e1 64 (by omega)]; exact f5⟩
  · rw [e1 61 (by omega)]
    exact rp_cg h1 (fun k k1 k2 => e1 k (by omega))
  · rw [e1 53 (by omega), e1 62 (by omega), e1 63 (by omega)]
    obtain ⟨g1, g2, g3⟩ := h2 i hi
    exact ⟨g1, g2, fun z => rp_cg (g3 z) (fun k k1 k2 => e1 k (by omega))⟩
theorem smC_rf (I : z_M) : smC I I := ⟨fun _ _ => rfl, rfl⟩
theorem smM_rf (I : z_M) : smM I I := ⟨fun _ _ => rfl, rfl, rfl, rfl⟩
theorem smM_tr {I I' I'' : z_M} (h : smM I I') (h' : smM I' I'') : smM I I'' := ⟨fun k hk => (h'.1 k hk).trans (h.1 k hk), h'.2.1.trans h.2.1, h'.2.2.1.trans h.2.2.1, h'.2.2.2.trans h.2.2.2⟩
theorem smC_tr {I I' I'' : z_M} (h : smC I I') (h' : smC I' I'') : smC I I'' := ⟨fun k hk => (h'.1 k hk).trans (h.1 k hk), h'.2.trans h.2⟩
/-- refusals: a count grows on both sides -/
theorem RR_ref {I : z_M} (h : RR I) (j : Nat) (hj : j < 3) : RR (z_up (z_up I 0 (10 + j) (i32 (I 0 (10 + j) + 1))) 64 j (i32 (I 64 j + 1))) := by
  obtain ⟨h1, h2, ⟨n, t1, t2, t3, t4⟩, f1, f2, f3, f4, f5⟩ := h
  have e : ∀ k, k ≠ 0 → k ≠ 64 → z_up (z_up I 0 (10 + j) (i32 (I 0 (10 + j) + 1))) 64 j (i32 (I 64 j + 1)) k = I k := fun k k1 k2 => by rw [z_up_n k2, z_up_n k1]
  have e0 : z_up (z_up I 0 (10 + j) (i32 (I 0 (10 + j) + 1))) 64 j (i32 (I 64 j + 1)) 0 = zu (I 0) (10 + j) (i32 (I 0 (10 + j) + 1)) := by rw [z_up_n (by decide), z_up_s]
  have e64 : z_up (z_up I 0 (10 + j) (i32 (I 0 (10 + j) + 1))) 64 j (i32 (I 64 j + 1)) 64 = zu (I 64) j (i32 (I 64 j + 1)) := by rw [z_up_s, z_up_n (by decide)]
  generalize z_up (z_up I 0 (10 + j) (i32 (I 0 (10 + j) + 1))) 64 j (i32 (I 64 j + 1)) = I' at e e0 e64 ⊢
  refine ⟨?_, fun i hi => ?_, ⟨n, t1, by rw [e 60 (by omega) (by omega)]; exact t2, by rw [e 54 (by omega) (by omega)]; exact t3, fun k hk => by rw [e 55 (by omega) (by omega), e 71 (by omega) (by omega)]; exact t4 k hk⟩, ?_⟩
  · rw [e 61 (by omega) (by omega)]
    exact rp_cg h1 (fun k k1 k2 => e k (by omega) (by omega))
  · rw [e 53 (by omega) (by omega), e 62 (by omega) (by omega), e 63 (by omega) (by omega)]
    obtain ⟨g1, g2, g3⟩ := h2 i hi
    exact ⟨g1, g2, fun z => rp_cg (g3 z) (fun k k1 k2 => e k (by omega) (by omega))⟩
  · have e8 : 8 ≠ 10 + j := by omega
    have e9 : 9 ≠ 10 + j := by omega
    refine ⟨by rw [e0, e 60 (by omega) (by omega), zu_n e8]; exact f1, by rw [e0, e 60 (by omega) (by omega), zu_n e9]; exact f2, ?_⟩
    rw [e0, e64]
    rcases (show j = 0 ∨ j = 1 ∨ j = 2 by omega) with rfl | rfl | rfl <;> simp [zu, f3, f4, f5]
