/-! the language: items, the class' text -/
section QP
variable {I I' : z_M} {B : Nat → Int} {n : Nat} {A A' : Nat → Int} {P L P' L' : Nat}
def nA (A : Nat → Int) : Prop := A 4 = 0 ∧ (∃ L : Nat, A 1 = L ∧ L ≤ 5) ∧ (∃ P : Nat, A 0 = P ∧ P ≤ 8) ∧ ∀ x, x < 3 → ∃ c : Nat, A (62 + 9 * x) = c ∧ c ≤ 8
theorem nA_P {v0 v1 v2 v3 v4 : Int} (h : nA A) (hL : A 1 = L) (hL5 : L < 5) : nA (putP A L v0 v1 v2 v3 v4) := by
  obtain ⟨h4, -, ⟨P, h0, h8⟩, hh⟩ := h
  unfold putP
  refine ⟨by rw [zu_n (by decide), row5_n (by omega)]; exact h4, ⟨L + 1, by rw [zu_s]; rfl, by omega⟩, ⟨P, by rw [zu_n (by decide), row5_n (by omega)]; exact h0, h8⟩, fun x hx => ?_⟩
  rw [zu_n (by omega), row5_n (by omega)]
  exact hh x hx
theorem nA_Q {v0 v1 : Int} (h : nA A) (hP : A 0 = P) (hP8 : P < 8) : nA (putQ A P v0 v1) := by
  obtain ⟨h4, ⟨L, h1, h5⟩, -, hh⟩ := h
  unfold putQ
  refine ⟨by rw [zu_n (by decide), row4_n (by omega)]; exact h4, ⟨L, by rw [zu_n (by decide), row4_n (by omega)]; exact h1, h5⟩, ⟨P + 1, by rw [zu_s]; rfl, by omega⟩, fun x hx => ?_⟩
  rw [zu_n (by omega), row4_n (by omega)]
  exact hh x hx
theorem nA_N {x c : Nat} {v : Int} (h : nA A) (hx : x < 3) (hc : c < 8) : nA (putN A x c v) := by
  obtain ⟨h4, ⟨L, h1, h5⟩, ⟨P, h0, h8⟩, hh⟩ := h
  unfold putN
  refine ⟨by rw [zu_n (by omega), zu_n (by omega)]; exact h4, ⟨L, by rw [zu_n (by omega), zu_n (by omega)]; exact h1, h5⟩, ⟨P, by rw [zu_n (by omega), zu_n (by omega)]; exact h0, h8⟩, fun y hy => ?_⟩
  by_cases z : y = x
  · subst z
    exact ⟨c + 1, by rw [zu_s]; rfl, by omega⟩
  · rw [zu_n (by omega), zu_n (by omega)]
    exact hh y hy
theorem nA_0 {x : Nat} (h : nA A) (hx : x < 3) : nA (zu A (62 + 9 * x) 0) := by
  obtain ⟨h4, ⟨L, h1, h5⟩, ⟨P, h0, h8⟩, hh⟩ := h
  refine ⟨by rw [zu_n (by omega)]; exact h4, ⟨L, by rw [zu_n (by omega)]; exact h1, h5⟩, ⟨P, by rw [zu_n (by omega)]; exact h0, h8⟩, fun y hy => ?_⟩
  by_cases z : y = x
  · subst z
    exact ⟨0, by rw [zu_s]; rfl, by omega⟩
  · rw [zu_n (by omega)]
    exact hh y hy
theorem rdS_n {p : Nat} {r : Nat × (Nat → Int)} (h : nA A) (e : rdS B n p A = .inr r) : nA r.2 := by
  unfold rdS at e
  split at e
  · cases e
    exact h
  · cases e
theorem rdN_i {p : Nat} {m : Int} {k : Nat → Int → zPR} {r : Nat × (Nat → Int)} (e : rdN B n p m k = .inr r) : (tkS B n p = 2 ∧ tkV B n p ≤ m) ∧ k (tkE B n p) (tkV B n p) = .inr r := by
  unfold rdN at e
  by_cases z : tkS B n p = 2 ∧ tkV B n p ≤ m
  · rw [if_pos z] at e
    exact ⟨z, e⟩
  · rw [if_neg z] at e
    cases e
theorem rdNs_n {x : Nat} {r : Nat × (Nat → Int)} (hx : x < 3) : ∀ (f : Nat) (A : Nat → Int) (p : Nat), nA A → rdNs B n x f A p = .inr r → nA r.2
  | 0, _, _, _, e => by cases e
  | f + 1, A, p, h, e => by
    rw [rdNs] at e
    by_cases z : tkS B n p = 3
    · rw [if_pos z] at e
      cases e
      exact h
    · rw [if_neg z] at e
      by_cases z2 : (tkS B n p = 2 ∧ tkV B n p ≤ 35) ∧ A (62 + 9 * x) < 8
      · rw [if_pos z2] at e
        exact rdNs_n hx f _ _ (nA_N h hx (by omega)) e
      · rw [if_neg z2] at e
        cases e
theorem rdItem_n {p : Nat} {r : Nat × (Nat → Int)} (h : nA A) (e : rdItem B n A p = .inr r) : nA r.2 := by
  obtain ⟨-, ⟨L, h1, -⟩, ⟨P, h0, -⟩, -⟩ := id h
  unfold rdItem at e
  split at e
  · split at e
    · obtain ⟨-, e⟩ := rdN_i e
      obtain ⟨-, e⟩ := rdN_i e
      obtain ⟨-, e⟩ := rdN_i e
      obtain ⟨-, e⟩ := rdN_i e
      obtain ⟨-, e⟩ := rdN_i e
      refine rdS_n (nA_P h ?_ ?_) e
      · omega
      · omega
    · cases e
  · split at e
    · split at e
      · obtain ⟨-, e⟩ := rdN_i e
        obtain ⟨-, e⟩ := rdN_i e
        refine rdS_n (nA_Q h ?_ ?_) e
        · omega
        · omega
      · cases e
    · split at e
      · obtain ⟨e0, e⟩ := rdN_i e
        have := tkV_r (B := B) e0.1
        exact rdNs_n (by omega) _ _ _ (nA_0 h (by omega)) e
      · cases e
theorem rdS_q {p q : Nat} (h : p ≤ n) (e : rdS B n p A = .inl q) : q ≤ n := by
  have := tkE_r (B := B) h
  unfold rdS at e
  split at e
  · cases e
  · cases e
    omega
theorem rdN_q {p q : Nat} {m : Int} {k : Nat → Int → zPR} (h : p ≤ n) (e : rdN B n p m k = .inl q) (hk : ∀ p' v, p' ≤ n → k p' v = .inl q → q ≤ n) : q ≤ n := by
  have := tkE_r (B := B) h
  unfold rdN at e
  split at e
  · exact hk _ _ this.2.2 e
  · cases e
    omega
theorem rdNs_q {x q : Nat} : ∀ (f : Nat) (A : Nat → Int) (p : Nat), p ≤ n → rdNs B n x f A p = .inl q → q ≤ n
  | 0, _, _, _, e => by
    cases e
    exact Nat.zero_le _
  | f + 1, A, p, h, e => by
    have := tkE_r (B := B) h
    rw [rdNs] at e
    split at e
    · cases e
    · split at e
      · exact rdNs_q f _ _ this.2.2 e
      · cases e
        omega
theorem rdItem_q {p q : Nat} (h : p ≤ n) (e : rdItem B n A p = .inl q) : q ≤ n := by
  have hr := tkE_r (B := B) h
  unfold rdItem at e
  split at e
  · split at e
    · exact rdN_q hr.2.2 e (fun _ _ h e => rdN_q h e (fun _ _ h e => rdN_q h e (fun _ _ h e => rdN_q h e (fun _ _ h e => rdN_q h e (fun _ _ h e => rdS_q h e)))))
    · cases e
      omega
  · split at e
    · split at e
      · exact rdN_q hr.2.2 e (fun _ _ h e => rdN_q h e (fun _ _ h e => rdS_q h e))
      · cases e
        omega
    · split at e
      · exact rdN_q hr.2.2 e (fun _ _ h e => rdNs_q _ _ _ h e)
      · cases e
        omega
theorem s8_readItem {Q : Int → z_M → Prop} {p : Nat} (hX : cX I B n) (hT : cLk I B n p) (hpn : p ≤ n) (hr : rp I 19 A) (hA : nA A) (h1 : ∀ (p' : Nat) (A' : Nat → Int) (I' : z_M), rdItem B n A p = .inr (p', A') → cX I' B n → I' 54 5 = p' → rp I' 19 A' → cfr I I' → Q 1 I') (h0 : ∀ (q : Nat) (I' : z_M), rdItem B n A p = .inl q → cX I' B n → I' 54 4 = q → cfr I I' → Q 0 I') : CX8_readItem [aR 54, aR 19] I Q := by
  obtain ⟨P, L, hs, -⟩ := id hr
  have hA1 : A 1 = L := hs.2.2.1.2.1
  have hA0 : A 0 = P := hs.2.2.1.1
  have hb := (tkE_r (B := B) hpn).2.2
  unfold rdItem at h1 h0
  refine eX8_readItem ?_
  refine X8_readItem_0 (k := ?_)
  refine X8_readItem_1 (k := ?_)
  refine X8_readItem_3 (k := ?_)
  refine s8_isWord (i := 1) (by decide) hX hT hpn (fun e => ?_) (fun e => ?_)
  · rw [if_pos e] at h1 h0
    refine X8_readItem_6 (kt := fun k6 => ?_) (kf := fun k6 => ?_)
    · omega
    refine X8_readItem_9 (k := ?_)
    refine X8_readItem_10 (k := ?_)
    rw [hs.1.2.1]
    refine X8_readItem_13 (k := ?_)
    refine X8_readItem_14 (kt := fun k14 => ?_) (kf := fun k14 => ?_)
    · rw [if_neg (by omega)] at h0
      refine X8_readItem_29 (k := ?_)
      refine X8_readItem_30 (hq := ?_)
      exact h0 _ I rfl hX hT.2.1 (fun _ _ => rfl)
    · rw [if_pos (by omega)] at h1 h0
      refine X8_readItem_17 (k := ?_)
      refine X8_readItem_18 (k := ?_)
      refine X8_readItem_19 (k := ?_)
      refine s8_readPlace hX hT.2.2.1 hb hr (by omega) (fun p' A' I1 g1 g2 g3 g4 g5 => ?_) (fun q I1 g1 g2 g3 g5 => ?_)
      · refine X8_readItem_22 (kt := fun k22 => ?_) (kf := fun k22 => ?_)
        · omega
        refine X8_readItem_25 (k := ?_)
        refine X8_readItem_26 (k := ?_)
        refine X8_readItem_30 (hq := ?_)
        exact h1 p' A' I1 g1 g2 g3 g4 g5
      · refine X8_readItem_22 (kt := fun k22 => ?_) (kf := fun k22 => ?_)
        · refine X8_readItem_29 (k := ?_)
          refine X8_readItem_30 (hq := ?_)
          exact h0 q I1 g1 g2 g3 g5
        · omega
  · rw [if_neg (by rw [e]; decide)] at h1 h0
    refine X8_readItem_6 (kt := fun k6 => ?_) (kf := fun k6 => ?_)
    rotate_left 1
    · omega
    refine X8_readItem_31 (k := ?_)
    refine X8_readItem_32 (k := ?_)
    refine X8_readItem_34 (k := ?_)
    refine s8_isWord (i := 2) (by decide) hX hT hpn (fun e => ?_) (fun e => ?_)
    · rw [if_pos e] at h1 h0
      refine X8_readItem_37 (kt := fun k37 => ?_) (kf := fun k37 => ?_)
      · omega
      refine X8_readItem_40 (k := ?_)
      refine X8_readItem_41 (k := ?_)
      rw [hs.1.2.2.1]
      refine X8_readItem_44 (k := ?_)
      refine X8_readItem_46 (kt := fun k46 => ?_) (kf := fun k46 => ?_)
      · rw [if_neg (by omega)] at h0
        refine X8_readItem_61 (k := ?_)
        refine X8_readItem_62 (hq := ?_)
        exact h0 _ I rfl hX hT.2.1 (fun _ _ => rfl)
      · rw [if_pos (by omega)] at h1 h0
        refine X8_readItem_49 (k := ?_)
        refine X8_readItem_50 (k := ?_)
        refine X8_readItem_51 (k := ?_)
        refine s8_readPipe hX hT.2.2.1 hb hr hA.1 (by omega) (fun p' A' I1 g1 g2 g3 g4 g5 => ?_) (fun q I1 g1 g2 g3 g5 => ?_)
        · refine X8_readItem_54 (kt := fun k54 => ?_) (kf := fun k54 => ?_)
          · omega
          refine X8_readItem_57 (k := ?_)
          refine X8_readItem_58 (k := ?_)
          refine X8_readItem_62 (hq := ?_)
          exact h1 p' A' I1 g1 g2 g3 g4 g5
        · refine X8_readItem_54 (kt := fun k54 => ?_) (kf := fun k54 => ?_)
          · refine X8_readItem_61 (k := ?_)
            refine X8_readItem_62 (hq := ?_)
            exact h0 q I1 g1 g2 g3 g5
          · omega
    · rw [if_neg (by rw [e]; decide)] at h1 h0
      refine X8_readItem_37 (kt := fun k37 => ?_) (kf := fun k37 => ?_)
      rotate_left 1
      · omega
      refine X8_readItem_63 (k := ?_)
      refine X8_readItem_64 (k := ?_)
      refine X8_readItem_66 (k := ?_)
      refine s8_isWord (i := 3) (by decide) hX hT hpn (fun e => ?_) (fun e => ?_)
      · rw [if_pos e] at h1 h0
        refine X8_readItem_69 (kt := fun k69 => ?_) (kf := fun k69 => ?_)
        · omega
        refine X8_readItem_72 (k := ?_)
        refine X8_readItem_73 (k := ?_)
        refine X8_readItem_74 (k := ?_)
        refine s8_readHymn hX hT.2.2.1 hb hr (fun p' A' I1 g1 g2 g3 g4 g5 => ?_) (fun q I1 g1 g2 g3 g5 => ?_)
        · refine X8_readItem_77 (kt := fun k77 => ?_) (kf := fun k77 => ?_)
          · omega
          refine X8_readItem_80 (k := ?_)
          refine X8_readItem_81 (k := ?_)
          refine X8_readItem_85 (hq := ?_)
          exact h1 p' A' I1 g1 g2 g3 g4 g5
        · refine X8_readItem_77 (kt := fun k77 => ?_) (kf := fun k77 => ?_)
          · refine X8_readItem_84 (k := ?_)
            refine X8_readItem_85 (hq := ?_)
            exact h0 q I1 g1 g2 g3 g5
          · omega
      · rw [if_neg (by rw [e]; decide)] at h0
        refine X8_readItem_69 (kt := fun k69 => ?_) (kf := fun k69 => ?_)
        · refine X8_readItem_84 (k := ?_)
          refine X8_readItem_85 (hq := ?_)
          exact h0 _ I rfl hX hT.2.1 (fun _ _ => rfl)
        · omega
theorem nA_z : nA (fun _ => 0) := ⟨rfl, ⟨0, rfl, by decide⟩, ⟨0, rfl, by decide⟩, fun x hx => ⟨0, rfl, by decide⟩⟩
theorem s8_readInto {Q : Int → z_M → Prop} (hX : cX I B n) (h1 : ∀ (c : Nat) (A' : Nat → Int) (I' : z_M), rdAll B n = .inr (c, A') → cX I' B n → rp I' 19 A' → cfr I I' → Q c I') (h0 : ∀ (q : Nat) (I' : z_M), rdAll B n = .inl q → q ≤ n → cX I' B n → cfr I I' → Q (-10 - q) I') : CX8_readInto [aR 54, aR 19] I Q := by
  have hn := hX.1
  unfold rdAll at h1 h0
  refine eX8_readInto ?_
  refine X8_readInto_0 (k := ?_)
  refine X8_readInto_1 (k := ?_)
  refine s4_reset rfl (fun I1 g0 g1 g2 g3 g6 g9 g91 gf => ?_)
  have hr1 : rp I1 19 (fun _ => 0) := ⟨0, 0, ⟨⟨g0, g1, g2, fun x hx => absurd hx (Nat.not_lt_zero x), fun x hx => absurd hx (Nat.not_lt_zero x)⟩, fun x hx => absurd hx (Nat.not_lt_zero x), ⟨rfl, rfl, by decide, by decide, fun x hx => absurd hx (Nat.not_lt_zero x), fun x hx => absurd hx (Nat.not_lt_zero x)⟩, fun x hx => absurd hx (Nat.not_lt_zero x)⟩, fun x hx => ⟨⟨Int.le_refl 0, show (0 : Int) ≤ 8 by decide⟩, g6 x hx, fun k hk => absurd (show (k : Int) < 0 from hk) (by omega)⟩, ⟨⟨Int.le_refl 0, show (0 : Int) ≤ 6 by decide⟩, g3, fun t ht => absurd (show (t : Int) < 0 from ht) (by omega)⟩, rpU_0 (b := 28) g9 g91 rfl rfl⟩
  have fr1 : cfr I I1 := fun k hk => gf k (by omega) (by omega) (by omega)
  have X1 : cX I1 B n := by
    obtain ⟨x1, x2, x3, x4⟩ := hX
    exact ⟨x1, by rw [gf 54 (by decide) (by decide) (by decide)]; exact x2, by rw [gf 55 (by decide) (by decide) (by decide)]; exact x3, x4⟩
  refine X8_readInto_4 (k := ?_)
  refine X8_readInto_5 (k := ?_)
  refine X8_readInto_6 (k := ?_)
  refine X8_readInto_9 (k := ?_)
  refine X8_readInto_10 (k := ?_)
  refine x8_step (p := 0) (by
    obtain ⟨x1, x2, x3, x4⟩ := X1
    exact ⟨x1, by (try simp (disch := omega) only [z_up_n, z_up_s, zu_s, zu_n, Int.toNat_natCast]); exact x2, by (try simp (disch := omega) only [z_up_n, z_up_s, zu_s, zu_n, Int.toNat_natCast]); exact x3, x4⟩) (by simp [z_up]) (Nat.zero_le _) (fun I2 X2 T2 f2 c2 => ?_)
  have hr2 : rp I2 19 (fun _ => 0) := rp_cg hr1 (fun k k1 k2 => by rw [f2 k (by omega), z_up_n (by omega)])
  have fr2 : cfr I I2 := cfr_t fr1 (fun k hk => by rw [f2 k (by omega), z_up_n (by omega)])
  have ha0 := tkE_r (B := B) (Nat.zero_le n)
  refine X8_readInto_13 (k := ?_)
  refine X8_readInto_14 (k := ?_)
  refine X8_readInto_16 (k := ?_)
  refine s8_isWord (i := 0) (by decide) X2 T2 (Nat.zero_le _) (fun e => ?_) (fun e => ?_)
  · rw [if_pos e] at h1 h0
    refine X8_readInto_19 (kt := fun k19 => ?_) (kf := fun k19 => ?_)
    · omega
    refine X8_readInto_22 (k := ?_)
    refine X8_readInto_23 (k := ?_)
    refine X8_readInto_24 (k := ?_)
    refine s8_stepTo X2 T2.2.2.1 ha0.2.2 (fun e3 I3 X3 n3 f3 => ?_) (fun e3 I3 X3 n3 f3 => ?_)
    · rw [if_pos e3] at h1 h0
      have hr3 : rp I3 19 (fun _ => 0) := rp_cg hr2 (fun k k1 k2 => f3 k (by omega))
      have fr3 : cfr I I3 := cfr_t fr2 (fun k hk => f3 k (by omega))
      have b3 := tk_g (B := B) ha0.2.2 e3 (by decide)
      have loop : ∀ (f c : Nat), c + f = 151 → 1 ≤ c → ∀ (J : z_M) (p : Nat) (C : Nat → Int), cX J B n → J 54 5 = p → p ≤ n → c ≤ p → rp J 19 C → nA C → cfr I J → (∀ (c' : Nat) (A' : Nat → Int) (I' : z_M), rdItems B n f c C p = .inr (c', A') → cX I' B n → rp I' 19 A' → cfr I I' → Q c' I') → (∀ (q : Nat) (I' : z_M), rdItems B n f c C p = .inl q → q ≤ n → cX I' B n → cfr I I' → Q (-10 - q) I') → JX8_readInto Q 40 [aR 54, aR 19, aI c] [] J := by
        intro f
        induction f with
        | zero =>
          intro c hc h1c J p C X np hp hcp hC hN fr k1 k0
          omega
        | succ f ih =>
          intro c hc h1c J p C X np hp hcp hC hN fr k1 k0
          rw [rdItems] at k1 k0
          have hr := tkE_r (B := B) hp
          refine X8_readInto_40 (k := ?_)
          refine X8_readInto_41 (k := ?_)
          refine X8_readInto_44 (kt := fun k44 => ?_) (kf := fun k44 => ?_)
          · omega
          refine X8_readInto_47 (k := ?_)
          refine X8_readInto_48 (k := ?_)
          refine x8_step X np hp (fun J1 Y1 T1 f1 c1 => ?_)
          have hC1 : rp J1 19 C := rp_cg hC (fun k k1 k2 => f1 k (by omega))
          have frj : cfr I J1 := cfr_t fr (fun k hk => f1 k (by omega))
          refine X8_readInto_51 (k := ?_)
          refine X8_readInto_52 (k := ?_)
          rw [T1.1]
          refine X8_readInto_55 (kt := fun k55 => ?_) (kf := fun k55 => ?_)
          · rw [if_neg (by assumption)] at k1 k0
            refine X8_readInto_60 (k := ?_)
            refine X8_readInto_61 (k := ?_)
            refine X8_readInto_62 (k := ?_)
            refine s8_readItem Y1 T1 hp hC1 hN (fun p' A' J2 y1 y2 y3 y4 y5 => ?_) (fun q J2 y1 y2 y3 y5 => ?_)
            · rw [y1, rdGo] at k1 k0
              have hg := rdItem_g hp y1
              refine X8_readInto_65 (kt := fun k65 => ?_) (kf := fun k65 => ?_)
              rotate_left 1
              · omega
              refine X8_readInto_76 (k := ?_)
              refine X8_readInto_79 (k := ?_)
              exact ih (c + 1) (by omega) (by omega) J2 p' A' y2 y3 (by exact hg.2) (by have := hg.1; dsimp only at this; omega) y4 (rdItem_n hN y1) (cfr_t frj y5) k1 k0
            · rw [y1, rdGo] at k0
              refine X8_readInto_65 (kt := fun k65 => ?_) (kf := fun k65 => ?_)
              · omega
              have hq2 := Y1
              refine X8_readInto_68 (k := ?_)
              refine X8_readInto_70 (k := ?_)
              refine X8_readInto_71 (k := ?_)
              rw [y3]
              have hq : q ≤ n := by
                have hx := (rdItem_q (B := B) (A := C) hp y1)
                omega
              refine X8_readInto_74 (k := ?_)
              refine X8_readInto_75 (hq := ?_)
              exact k0 q J2 rfl hq y2 (cfr_t frj y5)
          · rw [if_pos (by assumption)] at k1
            refine X8_readInto_58 (k := ?_)
            refine X8_readInto_59 (hq := ?_)
            exact k1 c C J1 rfl Y1 hC1 frj
      refine X8_readInto_27 (kt := fun k27 => ?_) (kf := fun k27 => ?_)
      rotate_left 1
      · omega
      refine X8_readInto_38 (k := ?_)
      refine X8_readInto_39 (k := ?_)
      exact loop 150 1 rfl (Nat.le_refl _) I3 _ _ X3 n3 b3.2 (by omega) hr3 nA_z fr3 h1 h0
    · rw [if_neg e3] at h0
      have b4 := tkE_r (B := B) ha0.2.2
      refine X8_readInto_27 (kt := fun k27 => ?_) (kf := fun k27 => ?_)
      · omega
      refine X8_readInto_30 (k := ?_)
      refine X8_readInto_32 (k := ?_)
      refine X8_readInto_33 (k := ?_)
      rw [n3]
      refine X8_readInto_36 (k := ?_)
      refine X8_readInto_37 (hq := ?_)
      exact h0 _ I3 rfl (by omega) X3 (cfr_t fr2 (fun k hk => f3 k (by omega)))
  · rw [if_neg (by rw [e]; decide)] at h0
    refine X8_readInto_19 (kt := fun k19 => ?_) (kf := fun k19 => ?_)
    rotate_left 1
    · omega
    refine X8_readInto_30 (k := ?_)
    refine X8_readInto_32 (k := ?_)
    refine X8_readInto_33 (k := ?_)
    rw [T2.2.1]
    refine X8_readInto_36 (k := ?_)
    refine X8_readInto_37 (hq := ?_)
    exact h0 _ I2 rfl (by omega) X2 fr2
end QP
