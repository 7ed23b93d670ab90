/-! the language: what a text says, as a function of its bytes -/
section QN
variable {I I' : z_M} {B : Nat → Int} {n : Nat} {A A' : Nat → Int} {P L P' L' : Nat}
abbrev zPR : Type := Nat ⊕ (Nat × (Nat → Int))
def rdN (B : Nat → Int) (n p : Nat) (m : Int) (k : Nat → Int → zPR) : zPR := if tkS B n p = 2 ∧ tkV B n p ≤ m then k (tkE B n p) (tkV B n p) else .inl (tkA B n p)
def rdS (B : Nat → Int) (n p : Nat) (A : Nat → Int) : zPR := if tkS B n p = 3 then .inr (tkE B n p, A) else .inl (tkA B n p)
def putP (A : Nat → Int) (L : Nat) (v0 v1 v2 v3 v4 : Int) : Nat → Int := zu (row5 A (5 + 5 * L) v0 v1 v2 v3 v4) 1 (L + 1)
def putQ (A : Nat → Int) (P : Nat) (v0 v1 : Int) : Nat → Int := zu (row4 A (30 + 4 * P) v0 v1 (-1) 0) 0 (P + 1)
def putN (A : Nat → Int) (x c : Nat) (v : Int) : Nat → Int := zu (zu A (63 + 9 * x + c) v) (62 + 9 * x) (c + 1)
def rdPl (B : Nat → Int) (n : Nat) (A : Nat → Int) (p : Nat) : zPR := rdN B n p 11 fun p v0 => rdN B n p 23 fun p v1 => rdN B n p 24 fun p v2 => rdN B n p 30 fun p v3 => rdN B n p 30 fun p v4 => rdS B n p (putP A (A 1).toNat v0 v1 v2 v3 v4)
def rdPi (B : Nat → Int) (n : Nat) (A : Nat → Int) (p : Nat) : zPR := rdN B n p 5 fun p v0 => rdN B n p 35 fun p v1 => rdS B n p (putQ A (A 0).toNat v0 v1)
def rdNs (B : Nat → Int) (n x : Nat) : Nat → (Nat → Int) → Nat → zPR
  | 0, _, _ => .inl 0
  | f + 1, A, p => if tkS B n p = 3 then .inr (tkE B n p, A) else if (tkS B n p = 2 ∧ tkV B n p ≤ 35) ∧ A (62 + 9 * x) < 8 then rdNs B n x f (putN A x (A (62 + 9 * x)).toNat (tkV B n p)) (tkE B n p) else .inl (tkA B n p)
def rdH (B : Nat → Int) (n : Nat) (A : Nat → Int) (p : Nat) : zPR := rdN B n p 2 fun p v => rdNs B n v.toNat 9 (zu A (62 + 9 * v.toNat) 0) p
def rdItem (B : Nat → Int) (n : Nat) (A : Nat → Int) (p : Nat) : zPR :=
  if tkW B n 1 p = true then (if A 1 < 5 then rdPl B n A (tkE B n p) else .inl (tkA B n p))
  else if tkW B n 2 p = true then (if A 0 < 8 then rdPi B n A (tkE B n p) else .inl (tkA B n p))
  else if tkW B n 3 p = true then rdH B n A (tkE B n p) else .inl (tkA B n p)
def rdGo (B : Nat → Int) (n : Nat) (go : Nat → (Nat → Int) → Nat → zPR) (c : Nat) : zPR → zPR
  | .inl q => .inl q
  | .inr r => go (c + 1) r.2 r.1
def rdItems (B : Nat → Int) (n : Nat) : Nat → Nat → (Nat → Int) → Nat → zPR
  | 0, _, _, _ => .inl 0
  | f + 1, c, A, p => if tkS B n p = 0 then .inr (c, A) else rdGo B n (rdItems B n f) c (rdItem B n A p)
def rdAll (B : Nat → Int) (n : Nat) : zPR := if tkW B n 0 0 = true then (if tkS B n (tkE B n 0) = 3 then rdItems B n 150 1 (fun _ => 0) (tkE B n (tkE B n 0)) else .inl (tkA B n (tkE B n 0))) else .inl (tkA B n 0)
theorem tkV_r {p : Nat} (h : tkS B n p = 2) : 0 ≤ tkV B n p ∧ tkV B n p ≤ 99 := by
  unfold tkS tkSa at h
  unfold tkV tkVa
  by_cases z : tkA B n p < n
  · rw [if_pos z] at h
    by_cases l : isL (B (tkA B n p)) = true
    · rw [if_pos l] at h
      exact absurd h (by decide)
    · rw [if_neg l] at h
      by_cases f : isF (B (tkA B n p)) = true
      · rw [if_pos f] at h
        have b0 := of_decide_eq_true (show decide (48 ≤ B (tkA B n p) ∧ B (tkA B n p) ≤ 57) = true from f)
        by_cases w : tkA B n p + 2 < rR isF B n (tkA B n p)
        · rw [if_pos w] at h
          exact absurd h (by decide)
        · by_cases w2 : rR isF B n (tkA B n p) = tkA B n p + 1
          · rw [if_pos w2]
            omega
          · rw [if_neg w2]
            have f2 : isF (B (tkA B n p + 1)) = true := by
              cases e9 : isF (B (tkA B n p + 1))
              · rw [rR_t z f, rR_f (fun w => by rw [e9] at w; exact absurd w.2 (by decide))] at w2
                exact absurd rfl w2
              · rfl
            have b1 := of_decide_eq_true (show decide (48 ≤ B (tkA B n p + 1) ∧ B (tkA B n p + 1) ≤ 57) = true from f2)
            omega
      · rw [if_neg f] at h
        split at h
        · exact absurd h (by decide)
        · exact absurd h (by decide)
  · rw [if_neg z] at h
    exact absurd h (by decide)
theorem tk_g {p : Nat} {s : Int} (h : p ≤ n) (hs : tkS B n p = s) (h0 : s ≠ 0) : p < tkE B n p ∧ tkE B n p ≤ n := by
  have h1 := tkE_r (B := B) h
  have h2 := tkE_g (B := B) h (by rw [hs]; exact h0)
  omega
theorem rdN_g {p : Nat} {m : Int} {k : Nat → Int → zPR} {r : Nat × (Nat → Int)} (h : p ≤ n) (e : rdN B n p m k = .inr r) : p < tkE B n p ∧ tkE B n p ≤ n ∧ k (tkE B n p) (tkV B n p) = .inr r := by
  unfold rdN at e
  by_cases z : tkS B n p = 2 ∧ tkV B n p ≤ m
  · rw [if_pos z] at e
    have := tk_g (B := B) h z.1 (by decide)
    exact ⟨this.1, this.2, e⟩
  · rw [if_neg z] at e
    cases e
theorem rdS_g {p : Nat} {r : Nat × (Nat → Int)} (h : p ≤ n) (e : rdS B n p A = .inr r) : p < r.1 ∧ r.1 ≤ n := by
  unfold rdS at e
  by_cases z : tkS B n p = 3
  · rw [if_pos z] at e
    cases e
    exact tk_g (B := B) h z (by decide)
  · rw [if_neg z] at e
    cases e
theorem rdNs_g {x : Nat} {r : Nat × (Nat → Int)} : ∀ (f : Nat) (A : Nat → Int) (p : Nat), p ≤ n → rdNs B n x f A p = .inr r → p < r.1 ∧ r.1 ≤ n
  | 0, _, _, _, e => by cases e
  | f + 1, A, p, h, e => by
    rw [rdNs] at e
    by_cases z : tkS B n p = 3
    · rw [if_pos z] at e
      cases e
      exact tk_g (B := B) h z (by decide)
    · rw [if_neg z] at e
      by_cases z2 : (tkS B n p = 2 ∧ tkV B n p ≤ 35) ∧ A (62 + 9 * x) < 8
      · rw [if_pos z2] at e
        have h1 := tk_g (B := B) h z2.1.1 (by decide)
        have h2 := rdNs_g f _ _ h1.2 e
        omega
      · rw [if_neg z2] at e
        cases e
theorem rdPl_g {p : Nat} {r : Nat × (Nat → Int)} (h : p ≤ n) (e : rdPl B n A p = .inr r) : p < r.1 ∧ r.1 ≤ n := by
  obtain ⟨a1, a2, e⟩ := rdN_g h e
  obtain ⟨b1, b2, e⟩ := rdN_g a2 e
  obtain ⟨c1, c2, e⟩ := rdN_g b2 e
  obtain ⟨d1, d2, e⟩ := rdN_g c2 e
  obtain ⟨e1, e2, e⟩ := rdN_g d2 e
  have := rdS_g e2 e
  omega
theorem rdPi_g {p : Nat} {r : Nat × (Nat → Int)} (h : p ≤ n) (e : rdPi B n A p = .inr r) : p < r.1 ∧ r.1 ≤ n := by
  obtain ⟨a1, a2, e⟩ := rdN_g h e
  obtain ⟨b1, b2, e⟩ := rdN_g a2 e
  have := rdS_g b2 e
  omega
theorem rdH_g {p : Nat} {r : Nat × (Nat → Int)} (h : p ≤ n) (e : rdH B n A p = .inr r) : p < r.1 ∧ r.1 ≤ n := by
  obtain ⟨a1, a2, e⟩ := rdN_g h e
  have := rdNs_g _ _ _ a2 e
  omega
theorem rdItem_g {p : Nat} {r : Nat × (Nat → Int)} (h : p ≤ n) (e : rdItem B n A p = .inr r) : p < r.1 ∧ r.1 ≤ n := by
  have hr := tkE_r (B := B) h
  unfold rdItem at e
  split at e
  · split at e
    · have := rdPl_g hr.2.2 e
      omega
    · cases e
  · split at e
    · split at e
      · have := rdPi_g hr.2.2 e
        omega
      · cases e
    · split at e
      · have := rdH_g hr.2.2 e
        omega
      · cases e
/-! a row as the class holds it -/
theorem rp_putP {b : Nat} {v0 v1 v2 v3 v4 : Int} (h : rp I b A) (hL : A 1 = L) (hL5 : L < 5) (r0 : 0 ≤ v0 ∧ v0 ≤ 11) (r1 : 0 ≤ v1 ∧ v1 ≤ 23) (r2 : 0 ≤ v2 ∧ v2 ≤ 24) (r3 : 0 ≤ v3 ∧ v3 ≤ 30) (r4 : 0 ≤ v4 ∧ v4 ≤ 30) (e1 : I' (b + 1) = row5 (I (b + 1)) (5 * L) v0 v1 v2 v3 v4) (e0 : I' b = zu (I b) 1 (L + 1)) (ef : ∀ k, k ≠ b → k ≠ b + 1 → I' k = I k) : rp I' b (putP A L v0 v1 v2 v3 v4) := by
  obtain ⟨P, M, hs, hh, hr, hu⟩ := h
  have hM : M = L := by
    have := hs.2.2.1.2.1
    omega
  subst hM
  have eA : ∀ j, j ≠ 1 → (j < 5 + 5 * M ∨ 5 + 5 * M + 4 < j) → putP A M v0 v1 v2 v3 v4 j = A j := fun j j1 j5 => by
    unfold putP
    rw [zu_n j1, row5_n j5]
  refine ⟨P, M + 1, ?_, ?_, ?_, ?_⟩
  · exact rpS_place hs hL5 r0 r1 r2 r3 r4 e1 e0 (fun k k1 k2 => ef k (by omega) (by omega)) (fun j hj => by unfold putP; rw [zu_n (by omega)]) (by unfold putP; rw [zu_s]) (fun j j1 j2 j3 j4 j5 => eA j j2 j5)
  · exact rpH_cg hh (ef _ (by omega) (by omega)) (ef _ (by omega) (by omega)) (fun j j1 j2 => eA j (by omega) (by omega))
  · exact rpR_cg hr (by rw [e0, zu_n (by decide)]) (ef _ (by omega) (by omega)) (eA 3 (by decide) (by omega)) (fun j j1 j2 => eA j (by omega) (by omega)) (Nat.le_refl _) (Nat.le_succ _)
  · obtain ⟨o, U, u1, u2, u3, u4, u5, u6⟩ := hu
    refine ⟨o, U, u1, u2, by rw [ef _ (by omega) (by omega)]; exact u3, by rw [eA 4 (by decide) (by omega)]; exact u4, by rw [ef _ (by omega) (by omega)]; exact u5, fun u hu => ?_⟩
    rw [ef (b + 10) (by omega) (by omega), eA (113 + 17 * u) (by omega) (by omega)]
    refine ⟨(u6 u hu).1, fun p hp => ?_⟩
    rw [eA (113 + 17 * u + 1 + p) (by omega) (by omega), eA (113 + 17 * u + 9 + p) (by omega) (by omega)]
    obtain ⟨w1, w2, w3, w4⟩ := (u6 u hu).2 p hp
    exact ⟨w1, w2, by omega, w4⟩
theorem rp_putQ {b : Nat} {v0 v1 : Int} (h : rp I b A) (h4 : A 4 = 0) (hP : A 0 = P) (hP8 : P < 8) (r0 : 0 ≤ v0 ∧ v0 ≤ 5) (r1 : 0 ≤ v1 ∧ v1 ≤ 35) (e2 : I' (b + 2) = zu (I (b + 2)) P v0) (e3 : I' (b + 3) = zu (I (b + 3)) P v1) (e4 : I' (b + 4) = zu (I (b + 4)) P (-1)) (e5 : I' (b + 5) = zu (I (b + 5)) P 0) (e0 : I' b = zu (I b) 2 (P + 1)) (ef : ∀ k, k < b ∨ k = b + 1 ∨ b + 5 < k → I' k = I k) : rp I' b (putQ A P v0 v1) := by
  obtain ⟨M, L, hs, hh, hr, hu⟩ := h
  have hM : M = P := by
    have := hs.2.2.1.1
    omega
  subst hM
  have eA : ∀ j, j ≠ 0 → (j < 30 + 4 * M ∨ 30 + 4 * M + 3 < j) → putQ A M v0 v1 j = A j := fun j j1 j5 => by
    unfold putQ
    rw [zu_n j1, row4_n j5]
  refine ⟨M + 1, L, ?_, ?_, ?_, ?_⟩
  · exact rpS_pipe hs hP8 r0 r1 e2 e3 e4 e5 e0 (ef _ (by omega)) (fun j hj => by unfold putQ; rw [zu_n (by omega)]) (by unfold putQ; rw [zu_s]) (fun j j1 j2 j3 j4 j5 => eA j j2 j5)
  · exact rpH_cg hh (ef _ (by omega)) (ef _ (by omega)) (fun j j1 j2 => eA j (by omega) (by omega))
  · exact rpR_cg hr (by rw [e0, zu_n (by decide)]) (ef _ (by omega)) (eA 3 (by decide) (by omega)) (fun j j1 j2 => eA j (by omega) (by omega)) (Nat.le_succ _) (Nat.le_refl _)
  · obtain ⟨o, U, u1, u2, u3, u4, u5, u6⟩ := hu
    have : U = 0 := by omega
    subst this
    exact ⟨o, 0, u1, u2, by rw [ef _ (by omega)]; exact u3, by rw [eA 4 (by decide) (by omega)]; exact u4, by rw [ef _ (by omega)]; exact u5, fun u hu => absurd hu (Nat.not_lt_zero u)⟩
theorem rp_putN {b x c : Nat} {v : Int} (hb : z_cl b = 4) (h : rp I b A) (hx : x < 3) (hc : A (62 + 9 * x) = c) (hc8 : c < 8) (r1 : 0 ≤ v ∧ v ≤ 35) : rp (z_up (z_up I (b + 7) (8 * x + c) v) (b + 6) x (c + 1)) b (putN A x c v) := by
  obtain ⟨o1, o2, o3, o4, o5, o6, o7, o8, o9, o10, n1, n2, n3, n4, n5, n6, n7, n8, n10⟩ := z_o hb
  obtain ⟨P, L, hs, hh, hr, hu⟩ := h
  obtain ⟨⟨f1, f2⟩, f3, f4⟩ := hh x hx
  rw [hc] at f1 f2 f3 f4
  have eA : ∀ j, j < 62 ∨ 89 ≤ j → putN A x c v j = A j := fun j j1 => by
    unfold putN
    (try simp (disch := omega) only [z_up_n, z_up_s, zu_s, zu_n, Int.toNat_natCast])
  refine ⟨P, L, ?_, ?_, ?_, ?_⟩
  · exact rpS_cg hs (fun k k1 k2 k3 => by (try simp (disch := omega) only [z_up_n, z_up_s, zu_s, zu_n, Int.toNat_natCast])) ⟨by (try simp (disch := omega) only [z_up_n, z_up_s, zu_s, zu_n, Int.toNat_natCast]), by (try simp (disch := omega) only [z_up_n, z_up_s, zu_s, zu_n, Int.toNat_natCast]), by (try simp (disch := omega) only [z_up_n, z_up_s, zu_s, zu_n, Int.toNat_natCast])⟩ (fun j j1 j2 j3 => eA j (by omega))
  · refine rpH_set (h := x) (c := (c : Int) + 1) hx hh (by (try simp (disch := omega) only [z_up_n, z_up_s, zu_s, zu_n, Int.toNat_natCast])) (by unfold putN; rw [zu_s]) (fun g g1 g2 => ?_) (by omega) (fun g k g1 g2 g3 => ⟨by (try simp (disch := omega) only [z_up_n, z_up_s, zu_s, zu_n, Int.toNat_natCast]), ?_⟩) (fun k hk => ?_)
    · unfold putN
      (try simp (disch := omega) only [z_up_n, z_up_s, zu_s, zu_n, Int.toNat_natCast])
    · unfold putN
      (try simp (disch := omega) only [z_up_n, z_up_s, zu_s, zu_n, Int.toNat_natCast])
    · unfold putN
      rw [z_up_n (show b + 7 ≠ b + 6 by omega), z_up_s]
      by_cases z : k = c
      · subst z
        (try simp (disch := omega) only [z_up_n, z_up_s, zu_s, zu_n, Int.toNat_natCast])
        exact ⟨trivial, by omega, by omega⟩
      · (try simp (disch := omega) only [z_up_n, z_up_s, zu_s, zu_n, Int.toNat_natCast])
        exact f4 k (by omega)
  · exact rpR_cg hr (by (try simp (disch := omega) only [z_up_n, z_up_s, zu_s, zu_n, Int.toNat_natCast])) (by (try simp (disch := omega) only [z_up_n, z_up_s, zu_s, zu_n, Int.toNat_natCast])) (eA 3 (by decide)) (fun j j1 j2 => eA j (by omega)) (Nat.le_refl _) (Nat.le_refl _)
  · exact rpU_cg hu (by (try simp (disch := omega) only [z_up_n, z_up_s, zu_s, zu_n, Int.toNat_natCast])) (by (try simp (disch := omega) only [z_up_n, z_up_s, zu_s, zu_n, Int.toNat_natCast])) (eA 4 (by decide)) (fun j j1 => eA j (by omega))
theorem rp_put0 {b x : Nat} (hb : z_cl b = 4) (h : rp I b A) (hx : x < 3) : rp (z_up I (b + 6) x 0) b (zu A (62 + 9 * x) 0) := by
  obtain ⟨o1, o2, o3, o4, o5, o6, o7, o8, o9, o10, n1, n2, n3, n4, n5, n6, n7, n8, n10⟩ := z_o hb
  obtain ⟨P, L, hs, hh, hr, hu⟩ := h
  exact ⟨P, L, rpS_cg hs (fun k k1 k2 k3 => by (try simp (disch := omega) only [z_up_n, z_up_s, zu_s, zu_n, Int.toNat_natCast])) ⟨by (try simp (disch := omega) only [z_up_n, z_up_s, zu_s, zu_n, Int.toNat_natCast]), by (try simp (disch := omega) only [z_up_n, z_up_s, zu_s, zu_n, Int.toNat_natCast]), by (try simp (disch := omega) only [z_up_n, z_up_s, zu_s, zu_n, Int.toNat_natCast])⟩ (fun j j1 j2 j3 => by (try simp (disch := omega) only [z_up_n, z_up_s, zu_s, zu_n, Int.toNat_natCast])), rpH_set (h := x) hx hh (by (try simp (disch := omega) only [z_up_n, z_up_s, zu_s, zu_n, Int.toNat_natCast])) (by (try simp (disch := omega) only [z_up_n, z_up_s, zu_s, zu_n, Int.toNat_natCast])) (fun g g1 g2 => by (try simp (disch := omega) only [z_up_n, z_up_s, zu_s, zu_n, Int.toNat_natCast])) (c := 0) (by decide) (fun g k g1 g2 g3 => ⟨by (try simp (disch := omega) only [z_up_n, z_up_s, zu_s, zu_n, Int.toNat_natCast]), by (try simp (disch := omega) only [z_up_n, z_up_s, zu_s, zu_n, Int.toNat_natCast])⟩) (fun k hk => by omega), rpR_cg hr (by (try simp (disch := omega) only [z_up_n, z_up_s, zu_s, zu_n, Int.toNat_natCast])) (by (try simp (disch := omega) only [z_up_n, z_up_s, zu_s, zu_n, Int.toNat_natCast])) (by (try simp (disch := omega) only [z_up_n, z_up_s, zu_s, zu_n, Int.toNat_natCast])) (fun j j1 j2 => by (try simp (disch := omega) only [z_up_n, z_up_s, zu_s, zu_n, Int.toNat_natCast])) (Nat.le_refl _) (Nat.le_refl _), rpU_cg hu (by (try simp (disch := omega) only [z_up_n, z_up_s, zu_s, zu_n, Int.toNat_natCast])) (by (try simp (disch := omega) only [z_up_n, z_up_s, zu_s, zu_n, Int.toNat_natCast])) (by (try simp (disch := omega) only [z_up_n, z_up_s, zu_s, zu_n, Int.toNat_natCast])) (fun j j1 => by (try simp (disch := omega) only [z_up_n, z_up_s, zu_s, zu_n, Int.toNat_natCast]))⟩
end QN
