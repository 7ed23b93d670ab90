/-! tokens: the class looks at the next -/
section QK
variable {I I' : z_M} {B : Nat → Int} {n : Nat}
def rn (c : Int → Bool) (B : Nat → Int) (n : Nat) : Nat → Nat → Nat
  | 0, p => p
  | f + 1, p => if p < n ∧ c (B p) = true then rn c B n f (p + 1) else p
def rR (c : Int → Bool) (B : Nat → Int) (n p : Nat) : Nat := rn c B n (n - p) p
theorem rR_t {c : Int → Bool} {p : Nat} (h : p < n) (hc : c (B p) = true) : rR c B n p = rR c B n (p + 1) := by
  unfold rR
  rw [show n - p = (n - (p + 1)) + 1 by omega, rn, if_pos ⟨h, hc⟩]
theorem rR_f {c : Int → Bool} {p : Nat} (h : ¬ (p < n ∧ c (B p) = true)) : rR c B n p = p := by
  unfold rR
  cases e : n - p with
  | zero => rfl
  | succ f => rw [rn, if_neg h]
theorem rn_r {c : Int → Bool} : ∀ f p, p ≤ n → p ≤ rn c B n f p ∧ rn c B n f p ≤ n
  | 0, p, h => ⟨Nat.le_refl _, h⟩
  | f + 1, p, h => by
    unfold rn
    by_cases z : p < n ∧ c (B p) = true
    · rw [if_pos z]
      have := rn_r (c := c) f (p + 1) (by omega)
      omega
    · rw [if_neg z]
      omega
theorem rR_r {c : Int → Bool} {p : Nat} (h : p ≤ n) : p ≤ rR c B n p ∧ rR c B n p ≤ n := rn_r _ p h
def isL (c : Int) : Bool := decide (97 ≤ c ∧ c ≤ 122)
def isF (c : Int) : Bool := decide (48 ≤ c ∧ c ≤ 57)
def isB (c : Int) : Bool := decide (c = 32)
/-- the token behind p: where it stands, what it is (0 the end, 1 a word, 2 a number, 3 a stop, 4 wrong), what lies behind it, its number -/
def tkA (B : Nat → Int) (n p : Nat) : Nat := rR isB B n p
def tkSa (B : Nat → Int) (n a : Nat) : Int := if a < n then (if isL (B a) = true then 1 else if isF (B a) = true then (if a + 2 < rR isF B n a then 4 else 2) else if B a = 59 then 3 else 4) else 0
def tkEa (B : Nat → Int) (n a : Nat) : Nat := if a < n then (if isL (B a) = true then rR isL B n a else if isF (B a) = true then rR isF B n a else a + 1) else a
def tkVa (B : Nat → Int) (n a : Nat) : Int := if rR isF B n a = a + 1 then B a - 48 else 10 * (B a - 48) + (B (a + 1) - 48)
def tkS (B : Nat → Int) (n p : Nat) : Int := tkSa B n (tkA B n p)
def tkE (B : Nat → Int) (n p : Nat) : Nat := tkEa B n (tkA B n p)
def tkV (B : Nat → Int) (n p : Nat) : Int := tkVa B n (tkA B n p)
theorem isLF {c : Int} (h : isL c = true) : isF c = false := by
  unfold isL at h
  unfold isF
  have := of_decide_eq_true h
  exact decide_eq_false (by omega)
theorem tkEa_r {a : Nat} (h : a ≤ n) : a ≤ tkEa B n a ∧ tkEa B n a ≤ n := by
  unfold tkEa
  by_cases z : a < n
  · rw [if_pos z]
    have h1 := rR_r (B := B) (c := isL) h
    have h2 := rR_r (B := B) (c := isF) h
    split
    · exact h1
    · split
      · exact h2
      · omega
  · rw [if_neg z]
    omega
theorem tkE_r {p : Nat} (h : p ≤ n) : p ≤ tkA B n p ∧ tkA B n p ≤ tkE B n p ∧ tkE B n p ≤ n := by
  have h1 := rR_r (B := B) (c := isB) h
  have h2 := tkEa_r (B := B) (n := n) (a := tkA B n p) h1.2
  unfold tkA at h2 ⊢
  unfold tkE tkA
  omega
theorem tkE_g {p : Nat} (h : p ≤ n) (hs : tkS B n p ≠ 0) : tkA B n p < tkE B n p := by
  unfold tkS tkSa at hs
  unfold tkE tkEa
  by_cases z : tkA B n p < n
  · rw [if_pos z] at hs ⊢
    by_cases l : isL (B (tkA B n p)) = true
    · rw [if_pos l, rR_t z l]
      exact (rR_r (B := B) (c := isL) (show tkA B n p + 1 ≤ n by omega)).1
    · rw [if_neg l]
      by_cases f : isF (B (tkA B n p)) = true
      · rw [if_pos f, rR_t z f]
        exact (rR_r (B := B) (c := isF) (show tkA B n p + 1 ≤ n by omega)).1
      · rw [if_neg f]
        omega
  · rw [if_neg z] at hs
    exact absurd rfl hs
theorem s8_isLetter {Q : Int → z_M → Prop} {c : Int} (h1 : isL c = true → Q 1 I) (h0 : isL c = false → Q 0 I) : CX8_isLetter [aI c] I Q := by
  unfold isL at h1 h0
  rw [decide_eq_true_iff] at h1
  rw [decide_eq_false_iff_not] at h0
  refine eX8_isLetter ?_
  refine X8_isLetter_0 (k := ?_)
  refine X8_isLetter_1 (k := ?_)
  refine X8_isLetter_3 (kt := fun k3 => ?_) (kf := fun k3 => ?_)
  · refine X8_isLetter_16 (k := ?_)
    refine X8_isLetter_17 (hq := ?_)
    exact h0 (by omega)
  · refine X8_isLetter_6 (k := ?_)
    refine X8_isLetter_7 (k := ?_)
    refine X8_isLetter_9 (kt := fun k9 => ?_) (kf := fun k9 => ?_)
    · refine X8_isLetter_16 (k := ?_)
      refine X8_isLetter_17 (hq := ?_)
      exact h0 (by omega)
    · refine X8_isLetter_12 (k := ?_)
      refine X8_isLetter_13 (k := ?_)
      refine X8_isLetter_17 (hq := ?_)
      exact h1 (by omega)
theorem s8_isFigure {Q : Int → z_M → Prop} {c : Int} (h1 : isF c = true → Q 1 I) (h0 : isF c = false → Q 0 I) : CX8_isFigure [aI c] I Q := by
  unfold isF at h1 h0
  rw [decide_eq_true_iff] at h1
  rw [decide_eq_false_iff_not] at h0
  refine eX8_isFigure ?_
  refine X8_isFigure_0 (k := ?_)
  refine X8_isFigure_1 (k := ?_)
  refine X8_isFigure_3 (kt := fun k3 => ?_) (kf := fun k3 => ?_)
  · refine X8_isFigure_16 (k := ?_)
    refine X8_isFigure_17 (hq := ?_)
    exact h0 (by omega)
  · refine X8_isFigure_6 (k := ?_)
    refine X8_isFigure_7 (k := ?_)
    refine X8_isFigure_9 (kt := fun k9 => ?_) (kf := fun k9 => ?_)
    · refine X8_isFigure_16 (k := ?_)
      refine X8_isFigure_17 (hq := ?_)
      exact h0 (by omega)
    · refine X8_isFigure_12 (k := ?_)
      refine X8_isFigure_13 (k := ?_)
      refine X8_isFigure_17 (hq := ?_)
      exact h1 (by omega)
theorem i32_3 {v b : Int} (h : 0 ≤ v ∧ v ≤ 9) (hb : 0 ≤ b ∧ b ≤ 127) : i32 (i32 (i32 (10 * v) + b) - 48) = 10 * v + b - 48 := by
  rw [i32_id (x := 10 * v) (by omega), i32_id (x := 10 * v + b) (by omega), i32_id (by omega)]
def tf (I I' : z_M) : Prop := (∀ k, k ≠ 54 → I' k = I k) ∧ I' 54 0 = I 54 0
theorem tf_u {j : Nat} {x : Int} (h : tf I I') (hj : j ≠ 0) : tf I (z_up I' 54 j x) := ⟨fun k hk => by rw [z_up_n hk]; exact h.1 k hk, by rw [z_up_s, zu_n (fun q => hj q.symm)]; exact h.2⟩
theorem tf_t {I'' : z_M} (h : tf I I') (h' : tf I' I'') : tf I I'' := ⟨fun k hk => (h'.1 k hk).trans (h.1 k hk), h'.2.trans h.2⟩
theorem tf_r : tf I I := ⟨fun _ _ => rfl, rfl⟩
theorem s8_step {Q : z_M → Prop} {p : Nat} (hn : n ≤ 150) (h0 : I 54 0 = n) (hp : I 54 5 = p) (hpn : p ≤ n) (hB : I 55 = B) (hBr : ∀ k, k < n → 0 ≤ B k ∧ B k ≤ 127) (h : ∀ I' : z_M, I' 54 3 = tkS B n p → I' 54 4 = (tkA B n p : Nat) → I' 54 5 = (tkE B n p : Nat) → (tkS B n p = 2 → I' 54 6 = tkV B n p) → tf I I' → Q I') : CX8_step [aR 54] I Q := by
  have ha := rR_r (B := B) (c := isB) hpn
  unfold tkS tkE tkV at h
  rw [show rR isB B n p = tkA B n p from rfl] at ha
  obtain ⟨a, ea⟩ : ∃ a, tkA B n p = a := ⟨_, rfl⟩
  rw [ea] at h ha
  have bt : ∀ {I2 : z_M} {q : Nat}, tf I I2 → I2 55 q = B q := fun e => by rw [e.1 55 (by decide), hB]
  have ct : ∀ {I2 : z_M}, tf I I2 → I2 54 0 = n := fun e => by rw [e.2, h0]
  -- the last part: a sign of its own
  have last : ∀ (I2 : z_M) (sg : Int) (q : Nat), tf I I2 → I2 54 3 = sg → I2 54 4 = a → I2 54 5 = q → q ≤ n → (sg = tkSa B n a ∧ q = tkEa B n a ∧ (sg = 0 → n ≤ q) ∧ (sg = 2 → I2 54 6 = tkVa B n a) ∨ sg = 0 ∧ q = a ∧ a < n ∧ isL (B a) = false ∧ isF (B a) = false) → JX8_step Q 202 [aR 54] [] I2 := by
    intro I2 sg q fr f3 f4 f5 hq hc
    refine X8_step_202 (k := ?_)
    refine X8_step_203 (k := ?_)
    rw [f3]
    refine X8_step_206 (kt := fun k206 => ?_) (kf := fun k206 => ?_)
    · refine X8_step_253 (hq := ?_)
      rcases hc with ⟨c1, c2, c3, c4⟩ | ⟨c1, -⟩
      · exact h I2 (by rw [f3, c1]) f4 (by rw [f5, c2]) (fun z => c4 (by omega)) fr
      · omega
    · refine X8_step_209 (k := ?_)
      refine X8_step_210 (k := ?_)
      rw [f5]
      refine X8_step_213 (k := ?_)
      refine X8_step_214 (k := ?_)
      rw [ct fr]
      refine X8_step_217 (kt := fun k217 => ?_) (kf := fun k217 => ?_)
      · refine X8_step_253 (hq := ?_)
        rcases hc with ⟨c1, c2, c3, c4⟩ | ⟨c1, c2, c3, -⟩
        · exact h I2 (by rw [f3, c1]) f4 (by rw [f5, c2]) (fun z => c4 (by omega)) fr
        · omega
      · rcases hc with ⟨c1, c2, c3, c4⟩ | ⟨c1, c2, c3, c4, c5⟩
        · omega
        · subst c2
          rw [show tkSa B n q = if B q = 59 then 3 else 4 by unfold tkSa; rw [if_pos c3, c4, c5]; rfl, show tkEa B n q = q + 1 by unfold tkEa; rw [if_pos c3, c4, c5]; rfl] at h
          have br := hBr q c3
          refine X8_step_220 (k := ?_)
          refine X8_step_221 (k := ?_)
          refine X8_step_222 (k := ?_)
          refine X8_step_225 (k := ?_)
          refine X8_step_226 (k := ?_)
          rw [f5]
          refine X8_step_229 (k := ?_)
          rw [Int.toNat_natCast, bt fr]
          refine X8_step_230 (k := ?_)
          refine X8_step_232 (kt := fun k232 => ?_) (kf := fun k232 => ?_)
          · refine X8_step_239 (k := ?_)
            refine X8_step_240 (k := ?_)
            refine X8_step_243 (k := ?_)
            refine X8_step_244 (k := ?_)
            refine X8_step_245 (k := ?_)
            rw [z_up_s, zu_n (by decide), f5]
            refine X8_step_248 (k := ?_)
            refine X8_step_249 (k := ?_)
            refine X8_step_250 (k := ?_)
            rw [if_neg (by omega)] at h
            refine X8_step_253 (hq := ?_)
            exact h _ (by simp [z_up]) (by simp [z_up, f4]) (by simp [z_up]) (fun z => by omega) (tf_u (tf_u fr (by decide)) (by decide))
          · refine X8_step_235 (k := ?_)
            refine X8_step_236 (k := ?_)
            refine X8_step_240 (k := ?_)
            refine X8_step_243 (k := ?_)
            refine X8_step_244 (k := ?_)
            refine X8_step_245 (k := ?_)
            rw [z_up_s, zu_n (by decide), f5]
            refine X8_step_248 (k := ?_)
            refine X8_step_249 (k := ?_)
            refine X8_step_250 (k := ?_)
            rw [if_pos (by omega)] at h
            refine X8_step_253 (hq := ?_)
            exact h _ (by simp [z_up]) (by simp [z_up, f4]) (by simp [z_up]) (fun z => by omega) (tf_u (tf_u fr (by decide)) (by decide))
  -- a number too long
  have long : ∀ (I2 : z_M) (sg : Int) (q : Nat), tf I I2 → I2 54 3 = sg → I2 54 4 = a → I2 54 5 = q → a ≤ q → q ≤ n → (sg ≠ 2 ∧ sg = tkSa B n a ∧ q = tkEa B n a ∧ (sg = 0 → n ≤ q) ∨ sg = 0 ∧ q = a ∧ a < n ∧ isL (B a) = false ∧ isF (B a) = false ∨ sg = 2 ∧ a < n ∧ isF (B a) = true ∧ q = rR isF B n a ∧ (q ≤ a + 2 → I2 54 6 = tkVa B n a)) → JX8_step Q 176 [aR 54] [] I2 := by
    intro I2 sg q fr f3 f4 f5 haq hq hc
    refine X8_step_176 (k := ?_)
    refine X8_step_177 (k := ?_)
    rw [f3]
    refine X8_step_180 (k := ?_)
    refine X8_step_181 (kt := fun k181 => ?_) (kf := fun k181 => ?_)
    · refine last I2 sg q fr f3 f4 f5 hq ?_
      rcases hc with ⟨c0, c1, c2, c3⟩ | c | ⟨c1, -⟩
      · exact Or.inl ⟨c1, c2, c3, fun z => absurd z c0⟩
      · exact Or.inr c
      · omega
    · obtain ⟨c2, c3, c4, c5⟩ : a < n ∧ isF (B a) = true ∧ q = rR isF B n a ∧ (q ≤ a + 2 → I2 54 6 = tkVa B n a) := by
        rcases hc with ⟨c0, -⟩ | ⟨c0, -⟩ | ⟨-, c⟩
        · omega
        · omega
        · exact c
      have cL : isL (B a) = false := by
        cases e : isL (B a)
        · rfl
        · rw [isLF e] at c3
          exact absurd c3 (by decide)
      have eS : tkSa B n a = if a + 2 < rR isF B n a then 4 else 2 := by
        unfold tkSa
        rw [if_pos c2, cL, c3]
        rfl
      have eE : tkEa B n a = rR isF B n a := by
        unfold tkEa
        rw [if_pos c2, cL, c3]
        rfl
      refine X8_step_184 (k := ?_)
      refine X8_step_185 (k := ?_)
      rw [f5]
      refine X8_step_188 (k := ?_)
      refine X8_step_189 (k := ?_)
      rw [f4]
      refine X8_step_192 (k := ?_)
      refine X8_step_193 (k := ?_)
      refine X8_step_194 (kt := fun k194 => ?_) (kf := fun k194 => ?_)
      · refine last I2 sg q fr f3 f4 f5 hq (Or.inl ⟨?_, by rw [eE, c4], fun z => by omega, fun z => c5 (by omega)⟩)
        rw [eS, if_neg (by omega)]
        omega
      · refine X8_step_197 (k := ?_)
        refine X8_step_198 (k := ?_)
        refine X8_step_199 (k := ?_)
        refine last _ 4 q (tf_u fr (by decide)) (by simp [z_up]) (by simp [z_up, f4]) (by simp [z_up, f5]) hq (Or.inl ⟨?_, by rw [eE, c4], fun z => by omega, fun z => by omega⟩)
        rw [eS, if_pos (by omega)]
  -- figures
  have figs : ∀ (q : Nat), q ≤ n → ∀ (I2 : z_M) (sg : Int), tf I I2 → I2 54 3 = sg → I2 54 4 = a → I2 54 5 = q → a ≤ q → (sg = 1 ∧ sg = tkSa B n a ∧ q = tkEa B n a ∨ sg ≠ 1 ∧ (a < n → isL (B a) = false) ∧ rR isF B n q = rR isF B n a ∧ (q = a → sg = 0 ∧ I2 54 6 = 0) ∧ (a < q → sg = 2 ∧ a < n ∧ isF (B a) = true) ∧ (q = a + 1 → I2 54 6 = B a - 48) ∧ (q = a + 2 → I2 54 6 = 10 * (B a - 48) + (B (a + 1) - 48))) → JX8_step Q 100 [aR 54] [] I2 := by
    intro q hq
    refine z_for n (fun q => ∀ (I2 : z_M) (sg : Int), tf I I2 → I2 54 3 = sg → I2 54 4 = a → I2 54 5 = q → a ≤ q → (sg = 1 ∧ sg = tkSa B n a ∧ q = tkEa B n a ∨ sg ≠ 1 ∧ (a < n → isL (B a) = false) ∧ rR isF B n q = rR isF B n a ∧ (q = a → sg = 0 ∧ I2 54 6 = 0) ∧ (a < q → sg = 2 ∧ a < n ∧ isF (B a) = true) ∧ (q = a + 1 → I2 54 6 = B a - 48) ∧ (q = a + 2 → I2 54 6 = 10 * (B a - 48) + (B (a + 1) - 48))) → JX8_step Q 100 [aR 54] [] I2) ?_ (fun q hq ih => ?_) q hq
    · intro I2 sg fr f3 f4 f5 haq hc
      refine X8_step_100 (k := ?_)
      refine X8_step_101 (k := ?_)
      rw [f3]
      refine X8_step_104 (k := ?_)
      refine X8_step_105 (kt := fun k105 => ?_) (kf := fun k105 => ?_)
      · rcases hc with ⟨c1, c2, c3⟩ | ⟨c1, -⟩
        · exact long I2 sg n fr f3 f4 f5 haq (Nat.le_refl _) (Or.inl ⟨by omega, c2, c3, fun z => by omega⟩)
        · omega
      · obtain ⟨c1, c2, c3, c4, c5, c6, c7⟩ : sg ≠ 1 ∧ (a < n → isL (B a) = false) ∧ rR isF B n n = rR isF B n a ∧ (n = a → sg = 0 ∧ I2 54 6 = 0) ∧ (a < n → sg = 2 ∧ a < n ∧ isF (B a) = true) ∧ (n = a + 1 → I2 54 6 = B a - 48) ∧ (n = a + 2 → I2 54 6 = 10 * (B a - 48) + (B (a + 1) - 48)) := by
          rcases hc with ⟨c1, -⟩ | c
          · exact absurd c1 k105
          · exact c
        refine X8_step_108 (k := ?_)
        refine X8_step_109 (k := ?_)
        rw [f5]
        refine X8_step_112 (k := ?_)
        refine X8_step_113 (k := ?_)
        rw [ct fr]
        refine X8_step_116 (kt := fun k116 => ?_) (kf := fun k116 => ?_)
        · refine long I2 sg n fr f3 f4 f5 haq (Nat.le_refl _) ?_
          have e1 : rR isF B n n = n := rR_f (by omega)
          by_cases z : n = a
          · refine Or.inl ⟨by omega, ?_, ?_, fun _ => Nat.le_refl _⟩
            · unfold tkSa
              rw [if_neg (by omega)]
              exact (c4 z).1
            · unfold tkEa
              rw [if_neg (by omega)]
              exact z
          · have c5 := c5 (by omega)
            refine Or.inr (Or.inr ⟨c5.1, c5.2.1, c5.2.2, by omega, fun z2 => ?_⟩)
            unfold tkVa
            by_cases z3 : n = a + 1
            · rw [if_pos (by omega)]
              exact c6 z3
            · rw [if_neg (by omega)]
              exact c7 (by omega)
        · omega
    · intro I2 sg fr f3 f4 f5 haq hc
      refine X8_step_100 (k := ?_)
      refine X8_step_101 (k := ?_)
      rw [f3]
      refine X8_step_104 (k := ?_)
      refine X8_step_105 (kt := fun k105 => ?_) (kf := fun k105 => ?_)
      · rcases hc with ⟨c1, c2, c3⟩ | ⟨c1, -⟩
        · exact long I2 sg q fr f3 f4 f5 haq (by omega) (Or.inl ⟨by omega, c2, c3, fun z => by omega⟩)
        · omega
      · obtain ⟨c1, c2, c3, c4, c5, c6, c7⟩ : sg ≠ 1 ∧ (a < n → isL (B a) = false) ∧ rR isF B n q = rR isF B n a ∧ (q = a → sg = 0 ∧ I2 54 6 = 0) ∧ (a < q → sg = 2 ∧ a < n ∧ isF (B a) = true) ∧ (q = a + 1 → I2 54 6 = B a - 48) ∧ (q = a + 2 → I2 54 6 = 10 * (B a - 48) + (B (a + 1) - 48)) := by
          rcases hc with ⟨c1, -⟩ | c
          · exact absurd c1 k105
          · exact c
        have br := hBr q hq
        refine X8_step_108 (k := ?_)
        refine X8_step_109 (k := ?_)
        rw [f5]
        refine X8_step_112 (k := ?_)
        refine X8_step_113 (k := ?_)
        rw [ct fr]
        refine X8_step_116 (kt := fun k116 => ?_) (kf := fun k116 => ?_)
        · omega
        · refine X8_step_119 (k := ?_)
          refine X8_step_120 (k := ?_)
          refine X8_step_123 (k := ?_)
          refine X8_step_124 (k := ?_)
          rw [f5]
          refine X8_step_127 (k := ?_)
          rw [Int.toNat_natCast, bt fr]
          refine X8_step_128 (k := ?_)
          refine s8_isFigure (fun e => ?_) (fun e => ?_)
          · refine X8_step_131 (kt := fun k131 => ?_) (kf := fun k131 => ?_)
            · omega
            · refine X8_step_134 (k := ?_)
              refine X8_step_135 (k := ?_)
              refine X8_step_136 (k := ?_)
              refine X8_step_139 (k := ?_)
              refine X8_step_140 (k := ?_)
              refine X8_step_142 (k := ?_)
              refine X8_step_143 (k := ?_)
              rw [z_up_s, zu_n (by decide)]
              refine X8_step_146w (k := ?_)
              refine X8_step_147 (k := ?_)
              refine X8_step_148 (k := ?_)
              refine X8_step_151 (k := ?_)
              refine X8_step_152 (k := ?_)
              rw [z_up_s, zu_n (by decide), f5]
              refine X8_step_155 (k := ?_)
              rw [Int.toNat_natCast, z_up_n (by decide), bt fr]
              refine X8_step_156w (k := ?_)
              refine X8_step_157 (k := ?_)
              refine X8_step_159w (k := ?_)
              refine X8_step_160 (k := ?_)
              refine X8_step_163 (k := ?_)
              refine X8_step_164 (k := ?_)
              refine X8_step_165 (k := ?_)
              rw [z_up_s, zu_n (by decide), z_up_s, zu_n (by decide), f5]
              refine X8_step_168 (k := ?_)
              refine X8_step_169 (k := ?_)
              refine X8_step_170 (k := ?_)
              refine X8_step_173 (k := ?_)
              refine ih _ 2 (tf_u (tf_u (tf_u fr (by decide)) (by decide)) (by decide)) (by simp [z_up]) (by simp [z_up, f4]) (by simp [z_up]) (by omega) (Or.inr ⟨by decide, c2, ?_, fun z => by omega, fun z => ⟨rfl, ?_, ?_⟩, fun z => ?_, fun z => ?_⟩)
              · rw [← rR_t hq e]
                exact c3
              · by_cases z2 : q = a
                · omega
                · exact (c5 (by omega)).2.1
              · by_cases z2 : q = a
                · rw [← z2]
                  exact e
                · exact (c5 (by omega)).2.2
              · have z2 : q = a := by omega
                subst z2
                have c4 := (c4 rfl).2
                have e9 := i32_3 (v := I2 54 6) (b := B q) (by omega) br
                simp [z_up]
                rw [e9]
                omega
              · have z2 : q = a + 1 := by omega
                have c6 := c6 z2
                have ba := (c5 (by omega)).2.2
                unfold isF at ba
                have ba := of_decide_eq_true ba
                have e9 := i32_3 (v := I2 54 6) (b := B q) (by omega) br
                simp [z_up]
                rw [e9, c6, z2]
                omega
          · refine X8_step_131 (kt := fun k131 => ?_) (kf := fun k131 => ?_)
            · refine long I2 sg q fr f3 f4 f5 haq (by omega) ?_
              have e1 : rR isF B n q = q := rR_f (fun w => by rw [e] at w; exact absurd w.2 (by decide))
              by_cases z : q = a
              · subst z
                exact Or.inr (Or.inl ⟨(c4 rfl).1, rfl, hq, c2 hq, e⟩)
              · have c5 := c5 (by omega)
                refine Or.inr (Or.inr ⟨c5.1, c5.2.1, c5.2.2, by omega, fun z2 => ?_⟩)
                unfold tkVa
                by_cases z3 : q = a + 1
                · rw [if_pos (by omega)]
                  exact c6 z3
                · rw [if_neg (by omega)]
                  exact c7 (by omega)
            · omega
  -- letters
  have lets : ∀ (q : Nat), q ≤ n → ∀ (I2 : z_M), tf I I2 → I2 54 3 = (if q = a then 0 else 1) → I2 54 4 = a → I2 54 5 = q → I2 54 6 = 0 → a ≤ q → rR isL B n q = rR isL B n a → (a < q → a < n ∧ isL (B a) = true) → JX8_step Q 56 [aR 54] [] I2 := by
    have out : ∀ (q : Nat), q ≤ n → ∀ (I2 : z_M), tf I I2 → I2 54 3 = (if q = a then 0 else 1) → I2 54 4 = a → I2 54 5 = q → I2 54 6 = 0 → a ≤ q → rR isL B n q = rR isL B n a → (a < q → a < n ∧ isL (B a) = true) → ¬ (q < n ∧ isL (B q) = true) → JX8_step Q 100 [aR 54] [] I2 := by
      intro q hq I2 fr f3 f4 f5 f6 haq e1 e2 e3
      rw [rR_f e3] at e1
      by_cases z : q = a
      · rw [if_pos z] at f3
        subst z
        refine figs q hq I2 0 fr f3 f4 f5 haq (Or.inr ⟨by decide, fun w => ?_, rfl, fun _ => ⟨rfl, f6⟩, fun w => by omega, fun w => by omega, fun w => by omega⟩)
        cases e : isL (B q)
        · rfl
        · exact absurd ⟨w, e⟩ e3
      · rw [if_neg z] at f3
        obtain ⟨g1, g2⟩ := e2 (by omega)
        refine figs q hq I2 1 fr f3 f4 f5 haq (Or.inl ⟨rfl, ?_, ?_⟩)
        · unfold tkSa
          rw [if_pos g1, if_pos g2]
        · unfold tkEa
          rw [if_pos g1, if_pos g2]
          exact e1
    intro q hq
    refine z_for n (fun q => ∀ (I2 : z_M), tf I I2 → I2 54 3 = (if q = a then 0 else 1) → I2 54 4 = a → I2 54 5 = q → I2 54 6 = 0 → a ≤ q → rR isL B n q = rR isL B n a → (a < q → a < n ∧ isL (B a) = true) → JX8_step Q 56 [aR 54] [] I2) ?_ (fun q hq ih => ?_) q hq
    · intro I2 fr f3 f4 f5 f6 haq e1 e2
      refine X8_step_56 (k := ?_)
      refine X8_step_57 (k := ?_)
      rw [f5]
      refine X8_step_60 (k := ?_)
      refine X8_step_61 (k := ?_)
      rw [ct fr]
      refine X8_step_64 (kt := fun k64 => ?_) (kf := fun k64 => ?_)
      · exact out n (Nat.le_refl _) I2 fr f3 f4 f5 f6 haq e1 e2 (by omega)
      · omega
    · intro I2 fr f3 f4 f5 f6 haq e1 e2
      refine X8_step_56 (k := ?_)
      refine X8_step_57 (k := ?_)
      rw [f5]
      refine X8_step_60 (k := ?_)
      refine X8_step_61 (k := ?_)
      rw [ct fr]
      refine X8_step_64 (kt := fun k64 => ?_) (kf := fun k64 => ?_)
      · omega
      · refine X8_step_67 (k := ?_)
        refine X8_step_68 (k := ?_)
        refine X8_step_71 (k := ?_)
        refine X8_step_72 (k := ?_)
        rw [f5]
        refine X8_step_75 (k := ?_)
        rw [Int.toNat_natCast, bt fr]
        refine X8_step_76 (k := ?_)
        refine s8_isLetter (fun e => ?_) (fun e => ?_)
        · refine X8_step_79 (kt := fun k79 => ?_) (kf := fun k79 => ?_)
          · omega
          · refine X8_step_82 (k := ?_)
            refine X8_step_83 (k := ?_)
            refine X8_step_84 (k := ?_)
            refine X8_step_87 (k := ?_)
            refine X8_step_88 (k := ?_)
            refine X8_step_89 (k := ?_)
            rw [z_up_s, zu_n (by decide), f5]
            refine X8_step_92 (k := ?_)
            refine X8_step_93 (k := ?_)
            refine X8_step_94 (k := ?_)
            refine X8_step_97 (k := ?_)
            refine ih _ (tf_u (tf_u fr (by decide)) (by decide)) (by rw [if_neg (by omega)]; simp [z_up]) (by simp [z_up, f4]) (by simp [z_up]) (by simp [z_up, f6]) (by omega) (by rw [← rR_t hq e]; exact e1) (fun w => ?_)
            by_cases z2 : q = a
            · rw [← z2]
              exact ⟨hq, e⟩
            · exact e2 (by omega)
        · refine X8_step_79 (kt := fun k79 => ?_) (kf := fun k79 => ?_)
          · exact out q (by omega) I2 fr f3 f4 f5 f6 haq e1 e2 (fun w => by rw [e] at w; exact absurd w.2 (by decide))
          · omega
  -- the token begins
  have beg : ∀ (I2 : z_M), tf I I2 → I2 54 5 = a → JX8_step Q 38 [aR 54] [] I2 := by
    intro I2 fr f5
    refine X8_step_38 (k := ?_)
    refine X8_step_39 (k := ?_)
    refine X8_step_40 (k := ?_)
    rw [f5]
    refine X8_step_43 (k := ?_)
    refine X8_step_46 (k := ?_)
    refine X8_step_47 (k := ?_)
    refine X8_step_48 (k := ?_)
    refine X8_step_51 (k := ?_)
    refine X8_step_52 (k := ?_)
    refine X8_step_53 (k := ?_)
    exact lets a ha.2 _ (tf_u (tf_u (tf_u fr (by decide)) (by decide)) (by decide)) (by simp [z_up]) (by simp [z_up]) (by simp [z_up, f5]) (by simp [z_up]) (Nat.le_refl _) rfl (fun w => absurd w (Nat.lt_irrefl _))
  -- blanks
  refine eX8_step ?_
  refine z_for n (fun q => ∀ (I2 : z_M), tf I I2 → I2 54 5 = q → rR isB B n q = a → JX8_step Q 0 [aR 54] [] I2) ?_ (fun q hq ih => ?_) p hpn I tf_r hp ea
  · intro I2 fr f5 e
    rw [rR_f (by omega)] at e
    refine X8_step_0 (k := ?_)
    refine X8_step_1 (k := ?_)
    rw [f5]
    refine X8_step_4 (k := ?_)
    refine X8_step_5 (k := ?_)
    rw [ct fr]
    refine X8_step_8 (kt := fun k8 => ?_) (kf := fun k8 => ?_)
    · exact beg I2 fr (by rw [f5, e])
    · omega
  · intro I2 fr f5 e
    refine X8_step_0 (k := ?_)
    refine X8_step_1 (k := ?_)
    rw [f5]
    refine X8_step_4 (k := ?_)
    refine X8_step_5 (k := ?_)
    rw [ct fr]
    refine X8_step_8 (kt := fun k8 => ?_) (kf := fun k8 => ?_)
    · omega
    · refine X8_step_11 (k := ?_)
      refine X8_step_12 (k := ?_)
      refine X8_step_15 (k := ?_)
      refine X8_step_16 (k := ?_)
      rw [f5]
      refine X8_step_19 (k := ?_)
      rw [Int.toNat_natCast, bt fr]
      refine X8_step_20 (k := ?_)
      refine X8_step_22 (kt := fun k22 => ?_) (kf := fun k22 => ?_)
      · rw [rR_f (fun w => by have := of_decide_eq_true w.2; omega)] at e
        exact beg I2 fr (by rw [f5, e])
      · refine X8_step_25 (k := ?_)
        refine X8_step_26 (k := ?_)
        refine X8_step_27 (k := ?_)
        rw [f5]
        refine X8_step_30 (k := ?_)
        refine X8_step_31 (k := ?_)
        refine X8_step_32 (k := ?_)
        refine X8_step_35 (k := ?_)
        refine ih _ (tf_u fr (by decide)) (by simp [z_up]) ?_
        rw [← rR_t hq (decide_eq_true (by omega))]
        exact e
end QK
