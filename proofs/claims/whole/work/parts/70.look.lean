/-! tokens: the model looks at the next -/
section QL
variable {I I' : z_M} {B : Nat → Int} {n : Nat}
def mT (I : z_M) (B : Nat → Int) (n p : Nat) : Prop := I 60 17 = (tkA B n p : Nat) ∧ I 60 18 = ((tkE B n p - tkA B n p : Nat) : Int) ∧ I 60 19 = tkS B n p ∧ (tkS B n p = 2 → I 60 20 = tkV B n p)
def mf (I I' : z_M) : Prop := (∀ k, k ≠ 60 → I' k = I k) ∧ ∀ j, j < 17 ∨ 20 < j → I' 60 j = I 60 j
theorem mf_u {j : Nat} {x : Int} (h : mf I I') (hj : 17 ≤ j ∧ j ≤ 20) : mf I (z_up I' 60 j x) := ⟨fun k hk => by rw [z_up_n hk]; exact h.1 k hk, fun i hi => by rw [z_up_s, zu_n (by omega)]; exact h.2 i hi⟩
theorem mf_t {I'' : z_M} (h : mf I I') (h' : mf I' I'') : mf I I'' := ⟨fun k hk => (h'.1 k hk).trans (h.1 k hk), fun j hj => (h'.2 j hj).trans (h.2 j hj)⟩
theorem mf_r : mf I I := ⟨fun _ _ => rfl, fun _ _ => rfl⟩
theorem s11_isSmall {Q : Int → z_M → Prop} {c : Int} (h1 : isL c = true → Q 1 I) (h0 : isL c = false → Q 0 I) : CX11_isSmall [aI c] I Q := by
  unfold isL at h1 h0
  rw [decide_eq_true_iff] at h1
  rw [decide_eq_false_iff_not] at h0
  refine eX11_isSmall ?_
  refine X11_isSmall_0 (k := ?_)
  refine X11_isSmall_1 (k := ?_)
  refine X11_isSmall_2 (k := ?_)
  refine X11_isSmall_5 (k := ?_)
  refine X11_isSmall_8 (k := ?_)
  refine s11_in (fun a b => ?_) (fun e => ?_)
  · refine X11_isSmall_11 (hq := ?_)
    exact h1 ⟨a, b⟩
  · refine X11_isSmall_11 (hq := ?_)
    exact h0 e
theorem s11_isFigure {Q : Int → z_M → Prop} {c : Int} (h1 : isF c = true → Q 1 I) (h0 : isF c = false → Q 0 I) : CX11_isFigure [aI c] I Q := by
  unfold isF at h1 h0
  rw [decide_eq_true_iff] at h1
  rw [decide_eq_false_iff_not] at h0
  refine eX11_isFigure ?_
  refine X11_isFigure_0 (k := ?_)
  refine X11_isFigure_1 (k := ?_)
  refine X11_isFigure_2 (k := ?_)
  refine X11_isFigure_5 (k := ?_)
  refine X11_isFigure_8 (k := ?_)
  refine s11_in (fun a b => ?_) (fun e => ?_)
  · refine X11_isFigure_11 (hq := ?_)
    exact h1 ⟨a, b⟩
  · refine X11_isFigure_11 (hq := ?_)
    exact h0 e
theorem s11_lookAt {Q : z_M → Prop} {p : Nat} (hn : n ≤ 150) (h0 : I 60 16 = n) (hpn : p ≤ n) (hB : ∀ k, k < n → I 71 k = B k ∧ 0 ≤ B k ∧ B k ≤ 127) (h : ∀ I' : z_M, mT I' B n p → mf I I' → Q I') : CX11_lookAt [aR 60, aI p] I Q := by
  have ha := rR_r (B := B) (c := isB) hpn
  unfold mT tkS tkE tkV at h
  rw [show rR isB B n p = tkA B n p from rfl] at ha
  obtain ⟨a, ea⟩ : ∃ a, tkA B n p = a := ⟨_, rfl⟩
  rw [ea] at h ha
  have bt : ∀ {I2 : z_M} {q : Nat}, mf I I2 → q < n → I2 71 q = B q := fun e hq => by rw [e.1 71 (by decide), (hB _ hq).1]
  have ct : ∀ {I2 : z_M}, mf I I2 → I2 60 16 = n := fun e => by rw [e.2 16 (by decide), h0]
  -- the end: a number of more than two figures is wrong
  have fin : ∀ (I2 : z_M) (tk : Int) (t : Nat) (v3 v4 : z_V) (c2 : z_V), mf I I2 → I2 60 17 = a → I2 60 18 = t → I2 60 19 = tk → tkEa B n a = a + t → (tk ≠ 2 ∧ tk = tkSa B n a ∨ tk = 2 ∧ tkSa B n a = (if 2 < t then 4 else 2) ∧ (t ≤ 2 → I2 60 20 = tkVa B n a)) → JX11_lookAt Q 274 [aR 60, aI p, c2, v3, v4] [] I2 := by
    intro I2 tk t v3 v4 c2 fr f7 f8 f9 e1 e2
    rw [e1, show a + t - a = t by omega] at h
    refine X11_lookAt_274 (k := ?_)
    refine X11_lookAt_275 (k := ?_)
    refine X11_lookAt_276 (k := ?_)
    rw [f9]
    refine X11_lookAt_279 (k := ?_)
    refine X11_lookAt_280 (kt := fun k280 => ?_) (kf := fun k280 => ?_)
    · refine X11_lookAt_295 (k := ?_)
      refine X11_lookAt_296 (k := ?_)
      rw [f9]
      refine X11_lookAt_299 (k := ?_)
      refine X11_lookAt_302 (hq := ?_)
      rcases e2 with ⟨g1, g2⟩ | ⟨g1, -⟩
      · exact h _ ⟨by simp [z_up, f7], by simp [z_up, f8], by simp [z_up, g2], fun z => by omega⟩ (mf_u fr (by decide))
      · omega
    · obtain ⟨g2, g3⟩ : tkSa B n a = (if 2 < t then 4 else 2) ∧ (t ≤ 2 → I2 60 20 = tkVa B n a) := by
        rcases e2 with ⟨g1, -⟩ | ⟨-, g⟩
        · omega
        · exact g
      refine X11_lookAt_283 (k := ?_)
      refine X11_lookAt_284 (k := ?_)
      rw [f8]
      refine X11_lookAt_287 (k := ?_)
      refine X11_lookAt_288 (kt := fun k288 => ?_) (kf := fun k288 => ?_)
      · rw [if_neg (by omega)] at g2
        refine X11_lookAt_295 (k := ?_)
        refine X11_lookAt_296 (k := ?_)
        rw [f9]
        refine X11_lookAt_299 (k := ?_)
        refine X11_lookAt_302 (hq := ?_)
        exact h _ ⟨by simp [z_up, f7], by simp [z_up, f8], by simp [z_up, g2]; omega, fun _ => by simp [z_up, g3 (by omega)]⟩ (mf_u fr (by decide))
      · rw [if_pos (by omega)] at g2
        refine X11_lookAt_291 (k := ?_)
        refine X11_lookAt_292 (k := ?_)
        refine X11_lookAt_299 (k := ?_)
        refine X11_lookAt_302 (hq := ?_)
        exact h _ ⟨by simp [z_up, f7], by simp [z_up, f8], by simp [z_up, g2], fun z => by omega⟩ (mf_u fr (by decide))
  -- the number
  have num : ∀ (I2 : z_M) (tk : Int) (t : Nat) (v3 v4 : z_V) (c2 : Int) (m3 : Int), v3 = aI m3 → mf I I2 → I2 60 17 = a → I2 60 18 = t → I2 60 19 = tk → I2 60 20 = 0 → tkEa B n a = a + t → 1 ≤ t → a + t ≤ n → (tk ≠ 2 ∧ tk = tkSa B n a ∨ tk = 2 ∧ tkSa B n a = (if 2 < t then 4 else 2) ∧ isF (B a) = true ∧ rR isF B n a = a + t ∧ (2 ≤ t → isF (B (a + 1)) = true)) → JX11_lookAt Q 215 [aR 60, aI p, aI c2, v3, v4] [] I2 := by
    intro I2 tk t v3 v4 c2 m3 e3 fr f7 f8 f9 f0 e1 t1 t2 e2
    subst e3
    refine X11_lookAt_215 (k := ?_)
    refine X11_lookAt_216 (k := ?_)
    refine X11_lookAt_218 (k := ?_)
    refine X11_lookAt_220 (k := ?_)
    refine X11_lookAt_221 (k := ?_)
    rw [f8]
    refine X11_lookAt_224 (kt := fun k224 => ?_) (kf := fun k224 => ?_)
    · omega
    · refine X11_lookAt_227 (k := ?_)
      refine X11_lookAt_229 (k := ?_)
      refine X11_lookAt_230 (kt := fun k230 => ?_) (kf := fun k230 => ?_)
      · omega
      · refine X11_lookAt_233 (k := ?_)
        refine X11_lookAt_234 (k := ?_)
        rw [f9]
        refine X11_lookAt_237 (k := ?_)
        refine X11_lookAt_238 (kt := fun k238 => ?_) (kf := fun k238 => ?_)
        · refine fin I2 tk t _ _ _ fr f7 f8 f9 e1 ?_
          rcases e2 with e2 | ⟨g1, -⟩
          · exact Or.inl e2
          · omega
        · obtain ⟨g2, g3, g4, g5⟩ : tkSa B n a = (if 2 < t then 4 else 2) ∧ isF (B a) = true ∧ rR isF B n a = a + t ∧ (2 ≤ t → isF (B (a + 1)) = true) := by
            rcases e2 with ⟨g1, -⟩ | ⟨-, g⟩
            · omega
            · exact g
          have b0 := of_decide_eq_true (show decide (48 ≤ B a ∧ B a ≤ 57) = true from g3)
          refine X11_lookAt_241 (k := ?_)
          refine X11_lookAt_242 (k := ?_)
          refine X11_lookAt_244 (k := ?_)
          refine X11_lookAt_245 (k := ?_)
          rw [f0]
          refine X11_lookAt_248 (k := ?_)
          refine X11_lookAt_249 (k := ?_)
          refine X11_lookAt_250 (k := ?_)
          refine X11_lookAt_253 (k := ?_)
          refine X11_lookAt_254 (k := ?_)
          rw [f7]
          refine X11_lookAt_257 (k := ?_)
          refine X11_lookAt_259 (k := ?_)
          refine X11_lookAt_260 (k := ?_)
          rw [show ((a : Int) + 0).toNat = a by omega, bt fr (by omega)]
          refine X11_lookAt_261 (k := ?_)
          refine X11_lookAt_262 (k := ?_)
          refine X11_lookAt_264 (k := ?_)
          refine X11_lookAt_265 (k := ?_)
          refine X11_lookAt_268 (k := ?_)
          refine X11_lookAt_271 (k := ?_)
          refine X11_lookAt_218 (k := ?_)
          refine X11_lookAt_220 (k := ?_)
          refine X11_lookAt_221 (k := ?_)
          rw [z_up_s, zu_n (by decide), f8]
          refine X11_lookAt_224 (kt := fun k224 => ?_) (kf := fun k224 => ?_)
          · have t3 : t = 1 := by omega
            refine fin _ tk t _ _ _ (mf_u fr (by decide)) (by simp [z_up, f7]) (by simp [z_up, f8]) (by simp [z_up, f9]) e1 (Or.inr ⟨by omega, g2, fun _ => ?_⟩)
            unfold tkVa
            rw [if_pos (by omega)]
            simp [z_up]
          · have b1 := of_decide_eq_true (show decide (48 ≤ B (a + 1) ∧ B (a + 1) ≤ 57) = true from g5 (by omega))
            refine X11_lookAt_227 (k := ?_)
            refine X11_lookAt_229 (k := ?_)
            refine X11_lookAt_230 (kt := fun k230 => ?_) (kf := fun k230 => ?_)
            · omega
            · refine X11_lookAt_233 (k := ?_)
              refine X11_lookAt_234 (k := ?_)
              rw [z_up_s, zu_n (by decide), f9]
              refine X11_lookAt_237 (k := ?_)
              refine X11_lookAt_238 (kt := fun k238 => ?_) (kf := fun k238 => ?_)
              · omega
              · refine X11_lookAt_241 (k := ?_)
                refine X11_lookAt_242 (k := ?_)
                refine X11_lookAt_244 (k := ?_)
                refine X11_lookAt_245 (k := ?_)
                rw [z_up_s, zu_s]
                refine X11_lookAt_248 (k := ?_)
                refine X11_lookAt_249 (k := ?_)
                refine X11_lookAt_250 (k := ?_)
                refine X11_lookAt_253 (k := ?_)
                refine X11_lookAt_254 (k := ?_)
                rw [z_up_s, zu_n (by decide), f7]
                refine X11_lookAt_257 (k := ?_)
                refine X11_lookAt_259 (k := ?_)
                refine X11_lookAt_260 (k := ?_)
                rw [show ((a : Int) + (0 + 1)).toNat = a + 1 by omega, z_up_n (by decide), bt fr (by omega)]
                refine X11_lookAt_261 (k := ?_)
                refine X11_lookAt_262 (k := ?_)
                refine X11_lookAt_264 (k := ?_)
                refine X11_lookAt_265 (k := ?_)
                refine X11_lookAt_268 (k := ?_)
                refine X11_lookAt_271 (k := ?_)
                refine X11_lookAt_218 (k := ?_)
                refine X11_lookAt_220 (k := ?_)
                refine X11_lookAt_221 (k := ?_)
                rw [z_up_s, zu_n (by decide), z_up_s, zu_n (by decide), f8]
                have ok : JX11_lookAt Q 274 [aR 60, aI p, aI c2, aI m3, aI (0 + 1 + 1)] [] (z_up (z_up I2 60 20 (10 * 0 + B a - 48)) 60 20 (10 * (10 * 0 + B a - 48) + B (a + 1) - 48)) := by
                  refine fin _ tk t _ _ _ (mf_u (mf_u fr (by decide)) (by decide)) (by simp [z_up, f7]) (by simp [z_up, f8]) (by simp [z_up, f9]) e1 (Or.inr ⟨by omega, g2, fun _ => ?_⟩)
                  unfold tkVa
                  rw [if_neg (by omega), z_up_s, zu_s]
                  omega
                refine X11_lookAt_224 (kt := fun k224 => ?_) (kf := fun k224 => ?_)
                · exact ok
                · refine X11_lookAt_227 (k := ?_)
                  refine X11_lookAt_229 (k := ?_)
                  refine X11_lookAt_230 (kt := fun k230 => ?_) (kf := fun k230 => ?_)
                  · exact ok
                  · omega
  -- letters or figures
  have run : ∀ (c : Int → Bool) (tk : Int), (tk = 1 ∧ c = isL ∨ tk = 2 ∧ c = isF) → (∀ (I2 : z_M) (t : Nat) (v4 : z_V) (c2 : Int), mf I I2 → I2 60 17 = a → I2 60 18 = t → I2 60 19 = tk → I2 60 20 = 0 → 1 ≤ t → a + t = rR c B n a → JX11_lookAt Q 215 [aR 60, aI p, aI c2, aI 0, v4] [] I2 ∧ JX11_lookAt Q 215 [aR 60, aI p, aI c2, aI 1, v4] [] I2) → ∀ (q : Nat), q ≤ n → ∀ (I2 : z_M) (t : Nat) (v4 : z_V) (c2 : Int), mf I I2 → I2 60 17 = a → I2 60 18 = t → I2 60 19 = tk → I2 60 20 = 0 → 1 ≤ t → a + t = q → rR c B n q = rR c B n a → JX11_lookAt Q 136 [aR 60, aI p, aI c2, aI 1, v4] [] I2 := by
    intro c tk htk out q hq
    refine z_for n (fun q => ∀ (I2 : z_M) (t : Nat) (v4 : z_V) (c2 : Int), mf I I2 → I2 60 17 = a → I2 60 18 = t → I2 60 19 = tk → I2 60 20 = 0 → 1 ≤ t → a + t = q → rR c B n q = rR c B n a → JX11_lookAt Q 136 [aR 60, aI p, aI c2, aI 1, v4] [] I2) ?_ (fun q hq ih => ?_) q hq
    · intro I2 t v4 c2 fr f7 f8 f9 f0 t1 e1 e2
      rw [rR_f (by omega)] at e2
      refine X11_lookAt_136 (k := ?_)
      refine X11_lookAt_137 (kt := fun k137 => ?_) (kf := fun k137 => ?_)
      · omega
      · refine X11_lookAt_140 (k := ?_)
        refine X11_lookAt_141 (k := ?_)
        rw [f7]
        refine X11_lookAt_144 (k := ?_)
        refine X11_lookAt_145 (k := ?_)
        rw [f8]
        refine X11_lookAt_148 (k := ?_)
        refine X11_lookAt_149 (k := ?_)
        refine X11_lookAt_150 (k := ?_)
        rw [ct fr]
        refine X11_lookAt_153 (kt := fun k153 => ?_) (kf := fun k153 => ?_)
        · exact (out I2 t v4 c2 fr f7 f8 f9 f0 t1 (by omega)).2
        · omega
    · intro I2 t v4 c2 fr f7 f8 f9 f0 t1 e1 e2
      refine X11_lookAt_136 (k := ?_)
      refine X11_lookAt_137 (kt := fun k137 => ?_) (kf := fun k137 => ?_)
      · omega
      · refine X11_lookAt_140 (k := ?_)
        refine X11_lookAt_141 (k := ?_)
        rw [f7]
        refine X11_lookAt_144 (k := ?_)
        refine X11_lookAt_145 (k := ?_)
        rw [f8]
        refine X11_lookAt_148 (k := ?_)
        refine X11_lookAt_149 (k := ?_)
        refine X11_lookAt_150 (k := ?_)
        rw [ct fr]
        refine X11_lookAt_153 (kt := fun k153 => ?_) (kf := fun k153 => ?_)
        · omega
        · refine X11_lookAt_156 (k := ?_)
          refine X11_lookAt_157 (k := ?_)
          refine X11_lookAt_160 (k := ?_)
          refine X11_lookAt_161 (k := ?_)
          rw [f7]
          refine X11_lookAt_164 (k := ?_)
          refine X11_lookAt_165 (k := ?_)
          rw [f8]
          refine X11_lookAt_168 (k := ?_)
          refine X11_lookAt_169 (k := ?_)
          rw [show ((a : Int) + t).toNat = q by omega, bt fr hq]
          -- behind the question
          have yes : c (B q) = true → JX11_lookAt Q 193 [aR 60, aI p, aI c2, aI 1, aI (B q)] [aI 1] I2 := by
            intro e
            refine X11_lookAt_193 (k := ?_)
            refine X11_lookAt_194 (k := ?_)
            refine X11_lookAt_195 (k := ?_)
            refine X11_lookAt_196 (k := ?_)
            rw [f8]
            refine X11_lookAt_199 (k := ?_)
            refine X11_lookAt_200 (kt := fun k200 => ?_) (kf := fun k200 => ?_)
            · omega
            · refine X11_lookAt_203 (k := ?_)
              refine X11_lookAt_204 (k := ?_)
              refine X11_lookAt_208 (k := ?_)
              refine X11_lookAt_209 (k := ?_)
              refine X11_lookAt_212 (k := ?_)
              refine ih _ (t + 1) _ _ (mf_u fr (by decide)) (by simp [z_up, f7]) (by simp [z_up]) (by simp [z_up, f9]) (by simp [z_up, f0]) (by omega) (by omega) ?_
              rw [← rR_t hq e]
              exact e2
          have no : c (B q) = false → JX11_lookAt Q 193 [aR 60, aI p, aI c2, aI 1, aI (B q)] [aI 0] I2 := by
            intro e
            rw [rR_f (fun w => by rw [e] at w; exact absurd w.2 (by decide))] at e2
            refine X11_lookAt_193 (k := ?_)
            refine X11_lookAt_194 (k := ?_)
            refine X11_lookAt_195 (k := ?_)
            refine X11_lookAt_196 (k := ?_)
            rw [f8]
            refine X11_lookAt_199 (k := ?_)
            refine X11_lookAt_200 (kt := fun k200 => ?_) (kf := fun k200 => ?_)
            · refine X11_lookAt_207 (k := ?_)
              refine X11_lookAt_208 (k := ?_)
              refine X11_lookAt_209 (k := ?_)
              refine X11_lookAt_212 (k := ?_)
              rw [show (t : Int) + 0 = t by omega]
              refine X11_lookAt_136 (k := ?_)
              refine X11_lookAt_137 (kt := fun k137 => ?_) (kf := fun k137 => ?_)
              · exact (out _ t _ c2 (mf_u fr (by decide)) (by simp [z_up, f7]) (by simp [z_up]) (by simp [z_up, f9]) (by simp [z_up, f0]) t1 (by omega)).1
              · omega
            · omega
          refine X11_lookAt_170 (k := ?_)
          refine X11_lookAt_172 (k := ?_)
          refine X11_lookAt_173 (k := ?_)
          rw [f9]
          refine X11_lookAt_176 (k := ?_)
          refine X11_lookAt_177 (kt := fun k177 => ?_) (kf := fun k177 => ?_)
          · obtain ⟨-, rfl⟩ : tk = 2 ∧ c = isF := by
              rcases htk with ⟨g, -⟩ | g
              · omega
              · exact g
            refine X11_lookAt_188 (k := ?_)
            refine X11_lookAt_190 (k := ?_)
            exact s11_isFigure yes no
          · obtain ⟨-, rfl⟩ : tk = 1 ∧ c = isL := by
              rcases htk with g | ⟨g, -⟩
              · exact g
              · omega
            refine X11_lookAt_180 (k := ?_)
            refine X11_lookAt_182 (k := ?_)
            refine s11_isSmall (fun e => ?_) (fun e => ?_)
            · refine X11_lookAt_185 (k := ?_)
              exact yes e
            · refine X11_lookAt_185 (k := ?_)
              exact no e
  -- the token begins at a
  have beg : ∀ (I2 : z_M), mf I I2 → I2 60 17 = a → JX11_lookAt Q 43 [aR 60, aI p, aU, aU, aU] [] I2 := by
    intro I2 fr f7
    have fr3 : mf I (z_up (z_up (z_up I2 60 18 0) 60 19 0) 60 20 0) := mf_u (mf_u (mf_u fr (by decide)) (by decide)) (by decide)
    refine X11_lookAt_43 (k := ?_)
    refine X11_lookAt_44 (k := ?_)
    refine X11_lookAt_45 (k := ?_)
    refine X11_lookAt_48 (k := ?_)
    refine X11_lookAt_49 (k := ?_)
    refine X11_lookAt_50 (k := ?_)
    refine X11_lookAt_53 (k := ?_)
    refine X11_lookAt_54 (k := ?_)
    refine X11_lookAt_55 (k := ?_)
    refine X11_lookAt_58 (k := ?_)
    refine X11_lookAt_59 (k := ?_)
    rw [z_up_s, zu_n (by decide), z_up_s, zu_n (by decide), z_up_s, zu_n (by decide), f7]
    refine X11_lookAt_62 (k := ?_)
    refine X11_lookAt_63 (k := ?_)
    rw [ct fr3]
    refine X11_lookAt_66 (kt := fun k66 => ?_) (kf := fun k66 => ?_)
    · have han : a < n := by omega
      have bq := hB a han
      refine X11_lookAt_70 (k := ?_)
      refine X11_lookAt_71 (k := ?_)
      refine X11_lookAt_74 (k := ?_)
      refine X11_lookAt_75 (k := ?_)
      rw [z_up_s, zu_n (by decide), z_up_s, zu_n (by decide), z_up_s, zu_n (by decide), f7]
      refine X11_lookAt_78 (k := ?_)
      rw [Int.toNat_natCast, bt fr3 han]
      -- a sign of its own
      have own : ∀ tk : Int, (tk = 3 ∨ tk = 4) → isL (B a) = false → isF (B a) = false → tk = (if B a = 59 then 3 else 4) → JX11_lookAt Q 114 [aR 60, aI p, aI (B a), aU, aU] [aI tk, aR 60] (z_up (z_up (z_up I2 60 18 0) 60 19 0) 60 20 0) := by
        intro tk htk eL eF e
        refine X11_lookAt_114 (k := ?_)
        refine X11_lookAt_117 (k := ?_)
        refine X11_lookAt_118 (k := ?_)
        refine X11_lookAt_119 (k := ?_)
        refine X11_lookAt_122 (k := ?_)
        refine X11_lookAt_123 (k := ?_)
        rw [show z_up (z_up (z_up (z_up (z_up I2 60 18 0) 60 19 0) 60 20 0) 60 19 tk) 60 18 1 60 19 = tk by simp [z_up]]
        refine X11_lookAt_126 (k := ?_)
        refine X11_lookAt_127 (kt := fun k127 => ?_) (kf := fun k127 => ?_)
        · refine X11_lookAt_134 (k := ?_)
          refine X11_lookAt_135 (k := ?_)
          refine X11_lookAt_136 (k := ?_)
          refine X11_lookAt_137 (kt := fun k137 => ?_) (kf := fun k137 => ?_)
          · refine num _ tk 1 _ _ _ 0 rfl (mf_u (mf_u fr3 (by decide)) (by decide)) (by simp [z_up, f7]) (by simp [z_up]) (by simp [z_up]) (by simp [z_up]) ?_ (Nat.le_refl _) (by omega) (Or.inl ⟨by omega, ?_⟩)
            · unfold tkEa
              rw [if_pos han, eL, eF]
              rfl
            · unfold tkSa
              rw [if_pos han, eL, eF]
              exact e
          · omega
        · omega
      -- a word or a number
      have rest : ∀ (c : Int → Bool) (tk : Int), (tk = 1 ∧ c = isL ∨ tk = 2 ∧ c = isF ∧ isL (B a) = false) → c (B a) = true → JX11_lookAt Q 114 [aR 60, aI p, aI (B a), aU, aU] [aI tk, aR 60] (z_up (z_up (z_up I2 60 18 0) 60 19 0) 60 20 0) := by
        intro c tk htk e
        have out : ∀ (I2 : z_M) (t : Nat) (v4 : z_V) (c2 : Int), mf I I2 → I2 60 17 = a → I2 60 18 = t → I2 60 19 = tk → I2 60 20 = 0 → 1 ≤ t → a + t = rR c B n a → JX11_lookAt Q 215 [aR 60, aI p, aI c2, aI 0, v4] [] I2 ∧ JX11_lookAt Q 215 [aR 60, aI p, aI c2, aI 1, v4] [] I2 := by
          intro I2 t v4 c2 fr f7 f8 f9 f0 t1 e1
          have hr := rR_r (B := B) (c := c) (n := n) (p := a) (by omega)
          have ee : tkEa B n a = a + t := by
            unfold tkEa
            rw [if_pos han]
            rcases htk with ⟨g, rfl⟩ | ⟨g, rfl, g2⟩
            · rw [if_pos e, e1]
            · rw [g2, e, e1]
              rfl
          have es : tk ≠ 2 ∧ tk = tkSa B n a ∨ tk = 2 ∧ tkSa B n a = (if 2 < t then 4 else 2) ∧ isF (B a) = true ∧ rR isF B n a = a + t ∧ (2 ≤ t → isF (B (a + 1)) = true) := by
            rcases htk with ⟨g, rfl⟩ | ⟨g, rfl, g2⟩
            · refine Or.inl ⟨by omega, ?_⟩
              unfold tkSa
              rw [if_pos han, if_pos e]
              exact g
            · refine Or.inr ⟨g, ?_, e, e1.symm, fun t2 => ?_⟩
              · unfold tkSa
                rw [if_pos han, g2, e, ← e1]
                show (if a + 2 < a + t then (4 : Int) else 2) = if 2 < t then 4 else 2
                exact z_ite (by omega) (fun _ => rfl) (fun _ => rfl)
              · cases e9 : isF (B (a + 1))
                · rw [rR_t han e, rR_f (fun w => by rw [e9] at w; exact absurd w.2 (by decide))] at e1
                  omega
                · rfl
          exact ⟨num I2 tk t _ v4 c2 0 rfl fr f7 f8 f9 f0 ee t1 (by omega) es, num I2 tk t _ v4 c2 1 rfl fr f7 f8 f9 f0 ee t1 (by omega) es⟩
        refine X11_lookAt_114 (k := ?_)
        refine X11_lookAt_117 (k := ?_)
        refine X11_lookAt_118 (k := ?_)
        refine X11_lookAt_119 (k := ?_)
        refine X11_lookAt_122 (k := ?_)
        refine X11_lookAt_123 (k := ?_)
        rw [show z_up (z_up (z_up (z_up (z_up I2 60 18 0) 60 19 0) 60 20 0) 60 19 tk) 60 18 1 60 19 = tk by simp [z_up]]
        refine X11_lookAt_126 (k := ?_)
        refine X11_lookAt_127 (kt := fun k127 => ?_) (kf := fun k127 => ?_)
        · omega
        · refine X11_lookAt_130 (k := ?_)
          refine X11_lookAt_131 (k := ?_)
          refine X11_lookAt_135 (k := ?_)
          refine run c tk ?_ out (a + 1) (by omega) _ 1 _ _ (mf_u (mf_u fr3 (by decide)) (by decide)) (by simp [z_up, f7]) (by simp [z_up]) (by simp [z_up]) (by simp [z_up]) (Nat.le_refl _) rfl (rR_t han e).symm
          rcases htk with g | ⟨g1, g2, -⟩
          · exact Or.inl g
          · exact Or.inr ⟨g1, g2⟩
      refine X11_lookAt_79 (k := ?_)
      refine X11_lookAt_80 (k := ?_)
      refine X11_lookAt_81 (k := ?_)
      refine X11_lookAt_82 (k := ?_)
      refine s11_isSmall (fun e => ?_) (fun e => ?_)
      · refine X11_lookAt_85 (kt := fun k85 => ?_) (kf := fun k85 => ?_)
        · omega
        · refine X11_lookAt_88 (k := ?_)
          refine X11_lookAt_89 (k := ?_)
          exact rest isL 1 (Or.inl ⟨rfl, rfl⟩) e
      · refine X11_lookAt_85 (kt := fun k85 => ?_) (kf := fun k85 => ?_)
        · refine X11_lookAt_92 (k := ?_)
          refine X11_lookAt_93 (k := ?_)
          refine s11_isFigure (fun e2 => ?_) (fun e2 => ?_)
          · refine X11_lookAt_96 (kt := fun k96 => ?_) (kf := fun k96 => ?_)
            · omega
            · refine X11_lookAt_99 (k := ?_)
              refine X11_lookAt_100 (k := ?_)
              exact rest isF 2 (Or.inr ⟨rfl, rfl, e⟩) e2
          · refine X11_lookAt_96 (kt := fun k96 => ?_) (kf := fun k96 => ?_)
            · refine X11_lookAt_103 (k := ?_)
              refine X11_lookAt_104 (k := ?_)
              refine X11_lookAt_106 (kt := fun k106 => ?_) (kf := fun k106 => ?_)
              · refine X11_lookAt_113 (k := ?_)
                exact own 4 (Or.inr rfl) e e2 (by rw [if_neg (by omega)])
              · refine X11_lookAt_109 (k := ?_)
                refine X11_lookAt_110 (k := ?_)
                exact own 3 (Or.inl rfl) e e2 (by rw [if_pos (by omega)])
            · omega
        · omega
    · refine X11_lookAt_69 (hq := ?_)
      have e1 : tkEa B n a = a := by
        unfold tkEa
        rw [if_neg (by omega)]
      have e2 : tkSa B n a = 0 := by
        unfold tkSa
        rw [if_neg (by omega)]
      rw [e1, e2] at h
      exact h _ ⟨by simp [z_up, f7], by simp [z_up], by simp [z_up], fun z => by omega⟩ fr3
  refine eX11_lookAt ?_
  refine X11_lookAt_0 (k := ?_)
  refine X11_lookAt_1 (k := ?_)
  refine X11_lookAt_2 (k := ?_)
  refine z_for n (fun q => ∀ (I2 : z_M), mf I I2 → I2 60 17 = q → rR isB B n q = a → JX11_lookAt Q 5 [aR 60, aI p, aU, aU, aU] [] I2) ?_ (fun q hq ih => ?_) p hpn _ (mf_u mf_r (by decide)) (by simp [z_up]) ea
  · intro I2 fr f7 e
    rw [rR_f (by omega)] at e
    refine X11_lookAt_5 (k := ?_)
    refine X11_lookAt_6 (k := ?_)
    rw [f7]
    refine X11_lookAt_9 (k := ?_)
    refine X11_lookAt_10 (k := ?_)
    rw [ct fr]
    refine X11_lookAt_13 (kt := fun k13 => ?_) (kf := fun k13 => ?_)
    · exact beg I2 fr (by rw [f7, e])
    · omega
  · intro I2 fr f7 e
    refine X11_lookAt_5 (k := ?_)
    refine X11_lookAt_6 (k := ?_)
    rw [f7]
    refine X11_lookAt_9 (k := ?_)
    refine X11_lookAt_10 (k := ?_)
    rw [ct fr]
    refine X11_lookAt_13 (kt := fun k13 => ?_) (kf := fun k13 => ?_)
    · omega
    · refine X11_lookAt_16 (k := ?_)
      refine X11_lookAt_17 (k := ?_)
      refine X11_lookAt_20 (k := ?_)
      refine X11_lookAt_21 (k := ?_)
      rw [f7]
      refine X11_lookAt_24 (k := ?_)
      rw [Int.toNat_natCast, bt fr hq]
      refine X11_lookAt_25 (k := ?_)
      refine X11_lookAt_27 (kt := fun k27 => ?_) (kf := fun k27 => ?_)
      · rw [rR_f (fun w => by have := of_decide_eq_true w.2; omega)] at e
        exact beg I2 fr (by rw [f7, e])
      · refine X11_lookAt_30 (k := ?_)
        refine X11_lookAt_31 (k := ?_)
        refine X11_lookAt_32 (k := ?_)
        rw [f7]
        refine X11_lookAt_35 (k := ?_)
        refine X11_lookAt_36 (k := ?_)
        refine X11_lookAt_37 (k := ?_)
        refine X11_lookAt_40 (k := ?_)
        refine ih _ (mf_u fr (by decide)) (by simp [z_up]) ?_
        rw [← rR_t hq (decide_eq_true (by omega))]
        exact e
end QL
