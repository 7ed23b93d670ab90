/-! hands laid and taken: layHand, layNow; pass, fetch -/
section PB
variable {I I' : z_M} {b c : Nat} {A A' : Nat → Int} {P L : Nat}
def sA (A : Nat → Int) : Int × (Nat → Int) × (Nat → Int) := (A 2, wA A, yA A)
def pLay (A : Nat → Int) (P : Nat) (s : Int × (Nat → Int) × (Nat → Int)) : Nat → Int := fun j => if j = 2 then s.1 else if 30 ≤ j ∧ j < 30 + 4 * P ∧ (j - 30) % 4 = 2 then s.2.1 ((j - 30) / 4) else if 30 ≤ j ∧ j < 30 + 4 * P ∧ (j - 30) % 4 = 3 then s.2.2 ((j - 30) / 4) else A j
theorem pLay_2 {s : Int × (Nat → Int) × (Nat → Int)} : pLay A P s 2 = s.1 := by unfold pLay; rw [if_pos rfl]
theorem pLay_w {s : Int × (Nat → Int) × (Nat → Int)} {p : Nat} (hp : p < P) : pLay A P s (30 + 4 * p + 2) = s.2.1 p := by
  unfold pLay
  rw [if_neg (by omega), if_pos (by omega)]
  exact congrArg _ (by omega)
theorem pLay_y {s : Int × (Nat → Int) × (Nat → Int)} {p : Nat} (hp : p < P) : pLay A P s (30 + 4 * p + 3) = s.2.2 p := by
  unfold pLay
  rw [if_neg (by omega), if_neg (by omega), if_pos (by omega)]
  exact congrArg _ (by omega)
theorem pLay_n {s : Int × (Nat → Int) × (Nat → Int)} {j : Nat} (h2 : j ≠ 2) (h : j < 30 ∨ 30 + 4 * P ≤ j ∨ (j - 30) % 4 < 2) : pLay A P s j = A j := by
  unfold pLay
  rw [if_neg h2, if_neg (by omega), if_neg (by omega)]
theorem rpx_rp (h : rpx I b A P L) : rp I b A := ⟨P, L, h⟩
theorem rpx_C (h : rpx I b A P L) : stC I b A P L (sA A).1 (kA A) (sA A).2.1 (sA A).2.2 (tA A) := h.1.1
theorem rpx_A (h : rpx I b A P L) : wfA A P L := h.1.2.2.1
theorem rpx_S (h : rpx I b A P L) : wfS P L (kA A) (sA A).2.1 (sA A).2.2 := h.1.2.2.2
/-- the row after what hours did -/
theorem rpx_lay {s : Int × (Nat → Int) × (Nat → Int)} (h : rpx I b A P L) (hS : wfS P L (kA A) s.2.1 s.2.2) (hI : stC I' b A P L s.1 (kA A) s.2.1 s.2.2 (tA A)) (ef : ∀ k, k ≠ b → k ≠ b + 4 → k ≠ b + 5 → I' k = I k) (e0 : ∀ j, j ≠ 0 → I' b j = I b j) : rpx I' b (pLay A P s) P L := by
  obtain ⟨⟨-, s2, ⟨a0, a1, a2, a3, a4, a5⟩, -⟩, hH, hR, o, U, u1, u2, u3, u4, u5, u6⟩ := h
  obtain ⟨j0, j1, j2, j3, j4⟩ := hI
  refine ⟨⟨⟨by rw [pLay_2]; exact j0, j1, j2, fun x hx => ?_, fun p hp => ?_⟩, fun x hx => ?_, ⟨by rw [pLay_n (by decide) (by omega)]; exact a0, by rw [pLay_n (by decide) (by omega)]; exact a1, a2, a3, fun x hx => ?_, fun p hp => ?_⟩, fun p hp => ?_⟩, rpH_cg hH (ef _ (by omega) (by omega) (by omega)) (ef _ (by omega) (by omega) (by omega)) (fun j j1 j2 => pLay_n (by omega) (by omega)), rpR_cg hR (e0 3 (by decide)) (ef _ (by omega) (by omega) (by omega)) (pLay_n (by decide) (by omega)) (fun j j1 j2 => pLay_n (by omega) (by omega)) (Nat.le_refl _) (Nat.le_refl _), o, U, u1, u2, by rw [ef _ (by omega) (by omega) (by omega)]; exact u3, by rw [pLay_n (by decide) (by omega)]; exact u4, by rw [ef _ (by omega) (by omega) (by omega)]; exact u5, fun u hu => ?_⟩
  · dsimp only
    rw [pLay_n (by omega) (by omega), pLay_n (by omega) (by omega), pLay_n (by omega) (by omega)]
    exact j3 x hx
  · dsimp only
    rw [pLay_n (by omega) (by omega), pLay_n (by omega) (by omega), pLay_w hp, pLay_y hp]
    exact j4 p hp
  · rw [pLay_n (by omega) (by omega), pLay_n (by omega) (by omega), ef _ (by omega) (by omega) (by omega)]
    exact s2 x hx
  · rw [pLay_n (by omega) (by omega), pLay_n (by omega) (by omega), pLay_n (by omega) (by omega), pLay_n (by omega) (by omega), pLay_n (by omega) (by omega)]
    exact a4 x hx
  · rw [pLay_n (by omega) (by omega), pLay_n (by omega) (by omega)]
    exact a5 p hp
  · dsimp only
    rw [pLay_n (by omega) (by omega), pLay_w hp, pLay_y hp]
    exact hS p hp
  · obtain ⟨g1, g2⟩ := u6 u hu
    rw [ef _ (by omega) (by omega) (by omega), pLay_n (by omega) (by omega)]
    refine ⟨g1, fun p hp => ?_⟩
    rw [pLay_n (by omega) (by omega), pLay_n (by omega) (by omega)]
    exact g2 p hp
def pNext (A : Nat → Int) (P L : Nat) : Nat → Int := pLay A P (pHour A P L (kA A) (tA A) (sA A))
def pPass (A : Nat → Int) (P L : Nat) : Nat → Nat → Int
  | 0 => A
  | n + 1 => pNext (pKeep (pPass A P L n)) P L
theorem x4_hour {Q : z_M → Prop} (hb : z_cl b = 4) (hx : rpx I b A P L) (h : ∀ I', rpx I' b (pNext A P L) P L → (∀ k, k ≠ b → k ≠ b + 4 → k ≠ b + 5 → I' k = I k) → Q I') : CX4_letHourGoBy [aR b, aR 1] I Q :=
  s4_letHourGoBy hb (rpx_A hx) (rpx_S hx) (rpx_C hx) (fun I' e1 e2 e3 => h I' (rpx_lay hx (wfS_hours (s := sA A) (rpx_S hx) 1) e1 e2 e3) e2)
theorem s4_howManyAway {Q : Int → z_M → Prop} (hb : z_cl b = 4) {hr : Int} {K W Y tn : Nat → Int} (hP : P ≤ 8) (hI : stC I b A P L hr K W Y tn) (h : Q (z_cnt (fun p => !decide (W p = -1)) P : Nat) I) : CX4_howManyAway [aR b] I Q := by
  obtain ⟨o1, o2, o3, o4, o5, o6, o7, o8, o9, o10, n1, n2, n3, n4, n5, n6, n7, n8, n10⟩ := z_o hb
  refine eX4_howManyAway ?_
  refine X4_howManyAway_0 (k := ?_)
  refine X4_howManyAway_1 (k := ?_)
  refine X4_howManyAway_2 (k := ?_)
  refine X4_howManyAway_3 (k := ?_)
  refine z_for P (fun i => JX4_howManyAway Q 4 [aR b, aI (z_cnt (fun p => !decide (W p = -1)) i : Nat), aI i] [] I) ?_ (fun i hi ih => ?_) 0 (Nat.zero_le _)
  · refine X4_howManyAway_4 (k := ?_)
    refine X4_howManyAway_5 (k := ?_)
    refine X4_howManyAway_6 (k := ?_)
    rw [hI.2.2.1]
    refine X4_howManyAway_9 (kt := fun k9 => ?_) (kf := fun k9 => ?_)
    · refine X4_howManyAway_31 (k := ?_)
      refine X4_howManyAway_32 (hq := ?_)
      exact h
    · omega
  · have hc := z_cnt_le (fun p => !decide (W p = -1)) i
    refine X4_howManyAway_4 (k := ?_)
    refine X4_howManyAway_5 (k := ?_)
    refine X4_howManyAway_6 (k := ?_)
    rw [hI.2.2.1]
    refine X4_howManyAway_9 (kt := fun k9 => ?_) (kf := fun k9 => ?_)
    · omega
    · refine X4_howManyAway_12 (k := ?_)
      refine X4_howManyAway_13 (k := ?_)
      refine X4_howManyAway_16 (k := ?_)
      refine X4_howManyAway_17 (k := ?_)
      rw [Int.toNat_natCast, (hI.2.2.2.2 i hi).2.2.1]
      refine X4_howManyAway_18 (k := ?_)
      refine X4_howManyAway_19 (kt := fun k19 => ?_) (kf := fun k19 => ?_)
      · refine X4_howManyAway_25 (k := ?_)
        refine X4_howManyAway_28 (k := ?_)
        rw [z_cnt_f (by simp [k19])] at ih
        exact ih
      · refine X4_howManyAway_22 (k := ?_)
        refine X4_howManyAway_25 (k := ?_)
        refine X4_howManyAway_28 (k := ?_)
        rw [z_cnt_t (by simp [k19])] at ih
        exact ih
theorem s11_inChurch {Q : Int → z_M → Prop} {hr : Int} {K W Y tn : Nat → Int} (hA : wfA A P L) (hI : stM I A P L hr K W Y tn) (h : Q (z_bs (fun p => decide (W p = -1)) P : Nat) I) : CX11_inChurch [aR 60] I Q := by
  obtain ⟨a0, a1, a2, a3, a4, a5⟩ := id hA
  refine eX11_inChurch ?_
  refine X11_inChurch_0 (k := ?_)
  refine X11_inChurch_1 (k := ?_)
  refine X11_inChurch_2 (k := ?_)
  refine X11_inChurch_3 (k := ?_)
  refine z_for P (fun i => JX11_inChurch Q 4 [aR 60, aI (z_bs (fun p => decide (W p = -1)) i : Nat), aI i] [] I) ?_ (fun i hi ih => ?_) 0 (Nat.zero_le _)
  · refine X11_inChurch_4 (k := ?_)
    refine X11_inChurch_5 (k := ?_)
    refine X11_inChurch_6 (k := ?_)
    refine s11_pipes ?_
    rw [hI.1, a0]
    refine X11_inChurch_9 (kt := fun k9 => ?_) (kf := fun k9 => ?_)
    · refine X11_inChurch_38 (k := ?_)
      refine X11_inChurch_39 (hq := ?_)
      exact h
    · omega
  · have hb := z_bs_lt (fun p => decide (W p = -1)) i
    have hp := z_pow_lt (show i < 8 by omega)
    refine X11_inChurch_4 (k := ?_)
    refine X11_inChurch_5 (k := ?_)
    refine X11_inChurch_6 (k := ?_)
    refine s11_pipes ?_
    rw [hI.1, a0]
    refine X11_inChurch_9 (kt := fun k9 => ?_) (kf := fun k9 => ?_)
    · omega
    · refine X11_inChurch_12 (k := ?_)
      refine X11_inChurch_13 (k := ?_)
      refine X11_inChurch_14 (k := ?_)
      refine X11_inChurch_17 (k := ?_)
      refine X11_inChurch_18 (k := ?_)
      rw [Int.toNat_natCast, (hI.2.2.1 i hi).2.1]
      refine X11_inChurch_19 (k := ?_)
      refine X11_inChurch_20 (kt := fun k20 => ?_) (kf := fun k20 => ?_)
      · refine X11_inChurch_29 (k := ?_)
        refine X11_inChurch_30 (k := ?_)
        rw [z_bs_f (by simp [k20])] at ih
        rw [show zor (z_bs (fun p => decide (W p = -1)) i : Int) 0 = (z_bs (fun p => decide (W p = -1)) i : Nat) by simp [zor]]
        refine X11_inChurch_31 (k := ?_)
        refine X11_inChurch_32 (k := ?_)
        refine X11_inChurch_35 (k := ?_)
        exact ih
      · refine X11_inChurch_23 (k := ?_)
        refine X11_inChurch_24 (k := ?_)
        refine X11_inChurch_25 (k := ?_)
        refine X11_inChurch_26 (k := ?_)
        refine X11_inChurch_30 (k := ?_)
        rw [zor_bs]
        rw [z_bs_t (by simp [k20])] at ih
        refine X11_inChurch_31 (k := ?_)
        refine X11_inChurch_32 (k := ?_)
        refine X11_inChurch_35 (k := ?_)
        exact ih
theorem z_ite {α : Type} {p q : Prop} [Decidable p] [Decidable q] {a b a' b' : α} (h : p ↔ q) (ha : p → a = a') (hb : ¬p → b = b') : (if p then a else b) = if q then a' else b' := by
  by_cases z : p
  · rw [if_pos z, if_pos (h.mp z), ha z]
  · rw [if_neg z, if_neg (fun w => z (h.mpr w)), hb z]
def pMo (B : Nat → Int) (u i : Nat) : Nat → Int := fun j => if j = 113 + 17 * u then B 2 else if 113 + 17 * u + 1 ≤ j ∧ j < 113 + 17 * u + 1 + i then B (30 + 4 * (j - (113 + 17 * u + 1)) + 2) else if 113 + 17 * u + 9 ≤ j ∧ j < 113 + 17 * u + 9 + i then B (30 + 4 * (j - (113 + 17 * u + 9)) + 3) else B j
theorem pMo_s {B : Nat → Int} {u i : Nat} (hi : i < 8) {v w : Int} (hv : v = B (30 + 4 * i + 2)) (hw : w = B (30 + 4 * i + 3)) : zu (zu (pMo B u i) (113 + 17 * u + 1 + i) v) (113 + 17 * u + 9 + i) w = pMo B u (i + 1) := by
  funext j
  unfold zu pMo
  by_cases h1 : j = 113 + 17 * u + 9 + i
  · rw [if_pos h1, if_neg (by omega), if_neg (by omega), if_pos (by omega), hw]
    exact congrArg _ (by omega)
  · rw [if_neg h1]
    by_cases h2 : j = 113 + 17 * u + 1 + i
    · rw [if_pos h2, if_neg (by omega), if_pos (by omega), hv]
      exact congrArg _ (by omega)
    · rw [if_neg h2]
      exact z_ite Iff.rfl (fun _ => rfl) (fun _ => z_ite (by omega) (fun _ => rfl) (fun _ => z_ite (by omega) (fun _ => rfl) (fun _ => rfl)))
theorem s11_keep {Q : z_M → Prop} {U : Nat} (hA : I 61 = A) (hU : A 4 = U) (hU8 : U ≤ 8) (h : ∀ I', I' 61 = pKeep A → (∀ k, k ≠ 61 → I' k = I k) → Q I') : CX11_keep [aR 60] I Q := by
  have main : ∀ (v1 : z_V) (I1 : z_M) (B : Nat → Int) (u : Nat), u < 8 → I1 61 = B → B 4 = u → pKeep A = pMom B u → (∀ k, k ≠ 61 → I1 k = I k) → JX11_keep Q 52 [aR 60, v1, aU] [] I1 := by
    intro v1 I1 B u hu e1 e4 ek ef
    refine X11_keep_52 (k := ?_)
    refine X11_keep_54 (k := ?_)
    refine X11_keep_56 (k := ?_)
    refine X11_keep_57 (k := ?_)
    refine X11_keep_60 (k := ?_)
    refine X11_keep_61 (k := ?_)
    rw [e1, show (4 : Int).toNat = 4 from rfl, e4]
    refine X11_keep_62 (k := ?_)
    refine X11_keep_63 (k := ?_)
    refine X11_keep_64 (k := ?_)
    refine X11_keep_65 (k := ?_)
    refine X11_keep_66 (k := ?_)
    refine X11_keep_69 (k := ?_)
    refine X11_keep_70 (k := ?_)
    refine X11_keep_71 (k := ?_)
    refine X11_keep_74 (k := ?_)
    refine X11_keep_75 (k := ?_)
    refine X11_keep_76 (k := ?_)
    rw [e1, show (2 : Int).toNat = 2 from rfl, show (113 + 17 * (u : Int)).toNat = 113 + 17 * u by omega]
    refine X11_keep_77 (k := ?_)
    refine X11_keep_78 (k := ?_)
    refine z_for 8 (fun i => ∀ I2, I2 61 = pMo B u i → (∀ k, k ≠ 61 → I2 k = I k) → JX11_keep Q 79 [aR 60, aI (113 + 17 * (u : Int)), aI i] [] I2) ?_ (fun i hi ih => ?_) 0 (by decide) _ ?_ (fun k hk => by rw [z_up_n hk]; exact ef k hk)
    · intro I2 f1 f2
      refine X11_keep_79 (k := ?_)
      refine X11_keep_80 (k := ?_)
      refine X11_keep_82 (kt := fun k82 => ?_) (kf := fun k82 => ?_)
      · refine X11_keep_124 (k := ?_)
        refine X11_keep_125 (k := ?_)
        refine X11_keep_128 (k := ?_)
        refine X11_keep_129 (k := ?_)
        refine X11_keep_130 (k := ?_)
        rw [show (4 : Int).toNat = 4 from rfl, f1, show pMo B u 8 4 = u by unfold pMo; rw [if_neg (by omega), if_neg (by omega), if_neg (by omega)]; exact e4]
        refine X11_keep_131 (k := ?_)
        refine X11_keep_132 (k := ?_)
        refine X11_keep_133 (k := ?_)
        refine X11_keep_134 (hq := ?_)
        refine h _ ?_ (fun k hk => by rw [z_up_n hk]; exact f2 k hk)
        rw [z_up_s, show (4 : Int).toNat = 4 from rfl, f1, ek]
        funext j
        unfold zu pMo pMom
        by_cases h1 : j = 113 + 17 * u
        · rw [if_neg (by omega), if_pos h1, if_pos h1]
        · by_cases h4 : 113 + 17 * u + 1 ≤ j ∧ j < 113 + 17 * u + 9
          · rw [if_neg (by omega), if_neg h1, if_pos (by omega), if_neg h1, if_pos h4]
          · by_cases h5 : 113 + 17 * u + 9 ≤ j ∧ j < 113 + 17 * u + 17
            · rw [if_neg (by omega), if_neg h1, if_neg (by omega), if_pos (by omega), if_neg h1, if_neg h4, if_pos h5]
            · by_cases h6 : j = 4
              · rw [if_pos h6, if_neg h1, if_neg h4, if_neg h5, if_pos h6]
              · rw [if_neg h6, if_neg h1, if_neg (by omega), if_neg (by omega), if_neg h1, if_neg h4, if_neg h5, if_neg h6]
      · omega
    · intro I2 f1 f2
      refine X11_keep_79 (k := ?_)
      refine X11_keep_80 (k := ?_)
      refine X11_keep_82 (kt := fun k82 => ?_) (kf := fun k82 => ?_)
      · omega
      · have q2 : pMo B u i (30 + 4 * i + 2) = B (30 + 4 * i + 2) := by
          unfold pMo
          rw [if_neg (by omega), if_neg (by omega), if_neg (by omega)]
        have q3 : pMo B u i (30 + 4 * i + 3) = B (30 + 4 * i + 3) := by
          unfold pMo
          rw [if_neg (by omega), if_neg (by omega), if_neg (by omega)]
        refine X11_keep_85 (k := ?_)
        refine X11_keep_86 (k := ?_)
        refine X11_keep_89 (k := ?_)
        refine X11_keep_90 (k := ?_)
        refine X11_keep_91 (k := ?_)
        refine X11_keep_92 (k := ?_)
        refine X11_keep_93 (k := ?_)
        refine X11_keep_94 (k := ?_)
        refine X11_keep_95 (k := ?_)
        refine X11_keep_96 (k := ?_)
        refine X11_keep_97 (k := ?_)
        refine s11_pipeHas (n := i) (k := 2) rfl rfl (by omega) ?_
        rw [f1, q2]
        refine X11_keep_100 (k := ?_)
        rw [show (113 + 17 * (u : Int) + 1 + i).toNat = 113 + 17 * u + 1 + i by omega]
        refine X11_keep_101 (k := ?_)
        refine X11_keep_102 (k := ?_)
        refine X11_keep_105 (k := ?_)
        refine X11_keep_106 (k := ?_)
        refine X11_keep_108 (k := ?_)
        refine X11_keep_109 (k := ?_)
        refine X11_keep_110 (k := ?_)
        refine X11_keep_111 (k := ?_)
        refine X11_keep_112 (k := ?_)
        refine X11_keep_113 (k := ?_)
        refine X11_keep_114 (k := ?_)
        refine s11_pipeHas (n := i) (k := 3) rfl rfl (by omega) ?_
        rw [z_up_s, zu_n (by omega), f1, q3]
        refine X11_keep_117 (k := ?_)
        rw [show (113 + 17 * (u : Int) + 9 + i).toNat = 113 + 17 * u + 9 + i by omega]
        refine X11_keep_118 (k := ?_)
        refine X11_keep_121 (k := ?_)
        refine ih _ ?_ (fun k hk => by rw [z_up_n hk, z_up_n hk]; exact f2 k hk)
        rw [z_up_s, z_up_s, f1]
        exact pMo_s hi rfl rfl
    · rw [z_up_s, e1]
      funext j
      unfold zu pMo
      by_cases h1 : j = 113 + 17 * u
      · rw [if_pos h1, if_pos h1]
      · rw [if_neg h1, if_neg h1, if_neg (by omega), if_neg (by omega)]
  refine eX11_keep ?_
  refine X11_keep_0 (k := ?_)
  refine X11_keep_1 (k := ?_)
  refine X11_keep_4 (k := ?_)
  refine X11_keep_5 (k := ?_)
  rw [hA, show (4 : Int).toNat = 4 from rfl, hU]
  refine X11_keep_6 (k := ?_)
  refine X11_keep_8 (kt := fun k8 => ?_) (kf := fun k8 => ?_)
  · refine main _ I A U (by omega) hA hU ?_ (fun _ _ => rfl)
    unfold pKeep
    rw [if_neg (by omega), show (A 4).toNat = U by omega]
  · refine X11_keep_11 (k := ?_)
    refine X11_keep_12 (k := ?_)
    refine z_for 119 (fun i => ∀ I2, I2 61 = (fun j => if 113 ≤ j ∧ j < 113 + i then A (j + 17) else A j) → (∀ k, k ≠ 61 → I2 k = I k) → JX11_keep Q 13 [aR 60, aI i, aU] [] I2) ?_ (fun i hi ih => ?_) 0 (by decide) _ ?_ (fun _ _ => rfl)
    · intro I2 f1 f2
      refine X11_keep_13 (k := ?_)
      refine X11_keep_14 (k := ?_)
      refine X11_keep_16 (kt := fun k16 => ?_) (kf := fun k16 => ?_)
      · refine X11_keep_44 (k := ?_)
        refine X11_keep_45 (k := ?_)
        refine X11_keep_48 (k := ?_)
        refine X11_keep_49 (k := ?_)
        refine X11_keep_51 (k := ?_)
        rw [show (4 : Int).toNat = 4 from rfl]
        refine main _ _ (pShift A) 7 (by decide) ?_ ?_ ?_ (fun k hk => by rw [z_up_n hk]; exact f2 k hk)
        · rw [z_up_s, f1]
          funext j
          unfold zu pShift
          dsimp only
          by_cases h1 : j = 4
          · rw [if_pos h1, if_neg (by omega), if_pos h1]
          · rw [if_neg h1]
            by_cases h2 : 113 ≤ j ∧ j < 232
            · rw [if_pos h2, if_pos h2]
            · rw [if_neg h2, if_neg h2, if_neg h1]
        · unfold pShift
          rw [if_neg (by decide), if_pos rfl]
          rfl
        · unfold pKeep
          rw [if_pos (by omega)]
      · omega
    · intro I2 f1 f2
      refine X11_keep_13 (k := ?_)
      refine X11_keep_14 (k := ?_)
      refine X11_keep_16 (kt := fun k16 => ?_) (kf := fun k16 => ?_)
      · omega
      · refine X11_keep_19 (k := ?_)
        refine X11_keep_20 (k := ?_)
        refine X11_keep_23 (k := ?_)
        refine X11_keep_25 (k := ?_)
        refine X11_keep_26 (k := ?_)
        refine X11_keep_27 (k := ?_)
        refine X11_keep_28 (k := ?_)
        refine X11_keep_31 (k := ?_)
        refine X11_keep_34 (k := ?_)
        refine X11_keep_35 (k := ?_)
        refine X11_keep_36 (k := ?_)
        rw [show (130 + (i : Int)).toNat = 130 + i by omega]
        refine X11_keep_37 (k := ?_)
        rw [show (113 + (i : Int)).toNat = 113 + i by omega]
        refine X11_keep_38 (k := ?_)
        refine X11_keep_41 (k := ?_)
        refine ih _ ?_ (fun k hk => by rw [z_up_n hk]; exact f2 k hk)
        rw [z_up_s, f1]
        funext j
        unfold zu
        dsimp only
        by_cases h1 : j = 113 + i
        · rw [if_pos h1, if_neg (by omega), if_pos (by omega)]
          exact congrArg _ (by omega)
        · rw [if_neg h1]
          by_cases h2 : 113 ≤ j ∧ j < 113 + i
          · rw [if_pos h2, if_pos (by omega)]
          · rw [if_neg h2, if_neg (by omega)]
    · rw [hA]
      funext j
      rw [if_neg (by omega)]
theorem s11_layHand {Q : z_M → Prop} (hA : wfA A P L) (hI : I 61 = A) (h : ∀ I', stM I' A P L (sA A).1 (kA A) (sA A).2.1 (sA A).2.2 (tA A) → (∀ k, k ≠ 60 → k ≠ 65 → k ≠ 66 → k ≠ 67 → k ≠ 68 → I' k = I k) → (∀ j, j ≠ 6 → I' 60 j = I 60 j) → Q I') : CX11_layHand [aR 60] I Q := by
  obtain ⟨a0, a1, a2, a3, a4, a5⟩ := id hA
  refine eX11_layHand ?_
  refine X11_layHand_0 (k := ?_)
  refine X11_layHand_1 (k := ?_)
  refine X11_layHand_2 (k := ?_)
  refine X11_layHand_5 (k := ?_)
  refine X11_layHand_6 (k := ?_)
  refine X11_layHand_7 (k := ?_)
  refine X11_layHand_10 (k := ?_)
  refine X11_layHand_11 (k := ?_)
  rw [hI, show (2 : Int).toNat = 2 from rfl]
  refine z_for P (fun i => ∀ I2, I2 61 = A → I2 60 6 = A 2 → (∀ p, p < i → I2 65 p = kA A p ∧ I2 66 p = wA A p ∧ I2 67 p = yA A p) → (∀ k, k ≠ 60 → k ≠ 65 → k ≠ 66 → k ≠ 67 → k ≠ 68 → I2 k = I k) → (∀ j, j ≠ 6 → I2 60 j = I 60 j) → JX11_layHand Q 12 [aR 60, aI i] [] I2) ?_ (fun i hi ih => ?_) 0 (Nat.zero_le _) _ (by rw [z_up_n (by decide)]; exact hI) (by rw [z_up_s, zu_s]) (fun p hp => absurd hp (Nat.not_lt_zero p)) (fun k k1 k2 k3 k4 k5 => by rw [z_up_n k1]) (fun j hj => by rw [z_up_s, zu_n hj])
  · intro I2 f1 f2 f3 f4 f5
    refine X11_layHand_12 (k := ?_)
    refine X11_layHand_13 (k := ?_)
    refine X11_layHand_14 (k := ?_)
    refine s11_pipes ?_
    rw [f1, a0]
    refine X11_layHand_17 (kt := fun k17 => ?_) (kf := fun k17 => ?_)
    · refine X11_layHand_62 (k := ?_)
      refine X11_layHand_63 (k := ?_)
      refine z_for L (fun i => ∀ I3, (∀ k, k ≠ 68 → I3 k = I2 k) → (∀ x, x < i → I3 68 x = tA A x) → JX11_layHand Q 64 [aR 60, aI i] [] I3) ?_ (fun i hi ih => ?_) 0 (Nat.zero_le _) _ (fun _ _ => rfl) (fun p hp => absurd hp (Nat.not_lt_zero p))
      · intro I3 g1 g2
        refine X11_layHand_64 (k := ?_)
        refine X11_layHand_65 (k := ?_)
        refine X11_layHand_66 (k := ?_)
        refine s11_places ?_
        rw [g1 61 (by decide), f1, a1]
        refine X11_layHand_69 (kt := fun k69 => ?_) (kf := fun k69 => ?_)
        · refine X11_layHand_90 (hq := ?_)
          refine h I3 ⟨by rw [g1 61 (by decide)]; exact f1, by rw [g1 60 (by decide)]; exact f2, fun p hp => ?_, g2⟩ (fun k k1 k2 k3 k4 k5 => by rw [g1 k k5]; exact f4 k k1 k2 k3 k4 k5) (fun j hj => by rw [g1 60 (by decide)]; exact f5 j hj)
          rw [g1 65 (by decide), g1 66 (by decide), g1 67 (by decide)]
          exact f3 p hp
        · omega
      · intro I3 g1 g2
        refine X11_layHand_64 (k := ?_)
        refine X11_layHand_65 (k := ?_)
        refine X11_layHand_66 (k := ?_)
        refine s11_places ?_
        rw [g1 61 (by decide), f1, a1]
        refine X11_layHand_69 (kt := fun k69 => ?_) (kf := fun k69 => ?_)
        · omega
        · refine X11_layHand_72 (k := ?_)
          refine X11_layHand_73 (k := ?_)
          refine X11_layHand_76 (k := ?_)
          refine X11_layHand_77 (k := ?_)
          refine X11_layHand_78 (k := ?_)
          refine X11_layHand_79 (k := ?_)
          refine X11_layHand_80 (k := ?_)
          refine s11_placeHas (n := i) (k := 0) rfl rfl (by omega) ?_
          rw [g1 61 (by decide), f1, Nat.add_zero]
          refine X11_layHand_83 (k := ?_)
          refine X11_layHand_84 (k := ?_)
          refine X11_layHand_87 (k := ?_)
          rw [Int.toNat_natCast]
          refine ih _ (fun k hk => by rw [z_up_n hk]; exact g1 k hk) (fun x hx => ?_)
          rw [z_up_s]
          by_cases z : x = i
          · subst z
            rw [zu_s]
            rfl
          · rw [zu_n z]
            exact g2 x (by omega)
    · omega
  · intro I2 f1 f2 f3 f4 f5
    refine X11_layHand_12 (k := ?_)
    refine X11_layHand_13 (k := ?_)
    refine X11_layHand_14 (k := ?_)
    refine s11_pipes ?_
    rw [f1, a0]
    refine X11_layHand_17 (kt := fun k17 => ?_) (kf := fun k17 => ?_)
    · omega
    · refine X11_layHand_20 (k := ?_)
      refine X11_layHand_21 (k := ?_)
      refine X11_layHand_24 (k := ?_)
      refine X11_layHand_25 (k := ?_)
      refine X11_layHand_26 (k := ?_)
      refine X11_layHand_27 (k := ?_)
      refine X11_layHand_28 (k := ?_)
      refine s11_pipeHas (n := i) (k := 0) rfl rfl (by omega) ?_
      rw [f1, Nat.add_zero]
      refine X11_layHand_31 (k := ?_)
      refine X11_layHand_32 (k := ?_)
      refine X11_layHand_33 (k := ?_)
      refine X11_layHand_36 (k := ?_)
      refine X11_layHand_37 (k := ?_)
      refine X11_layHand_38 (k := ?_)
      refine X11_layHand_39 (k := ?_)
      refine X11_layHand_40 (k := ?_)
      refine s11_pipeHas (n := i) (k := 2) rfl rfl (by omega) ?_
      rw [z_up_n (by decide), f1]
      refine X11_layHand_43 (k := ?_)
      refine X11_layHand_44 (k := ?_)
      refine X11_layHand_45 (k := ?_)
      refine X11_layHand_48 (k := ?_)
      refine X11_layHand_49 (k := ?_)
      refine X11_layHand_50 (k := ?_)
      refine X11_layHand_51 (k := ?_)
      refine X11_layHand_52 (k := ?_)
      refine s11_pipeHas (n := i) (k := 3) rfl rfl (by omega) ?_
      rw [z_up_n (by decide), z_up_n (by decide), f1]
      refine X11_layHand_55 (k := ?_)
      refine X11_layHand_56 (k := ?_)
      refine X11_layHand_59 (k := ?_)
      rw [Int.toNat_natCast]
      refine ih _ (by (try simp (disch := omega) only [z_up_n, z_up_s, zu_s, zu_n, Int.toNat_natCast]); exact f1) (by (try simp (disch := omega) only [z_up_n, z_up_s, zu_s, zu_n, Int.toNat_natCast]); exact f2) (fun p hp => ?_) (fun k k1 k2 k3 k4 k5 => by rw [z_up_n k4, z_up_n k3, z_up_n k2]; exact f4 k k1 k2 k3 k4 k5) (fun j hj => by (try simp (disch := omega) only [z_up_n, z_up_s, zu_s, zu_n, Int.toNat_natCast]); exact f5 j hj)
      (try simp (disch := omega) only [z_up_n, z_up_s, zu_s, zu_n, Int.toNat_natCast])
      by_cases z : p = i
      · subst z
        rw [zu_s, zu_s, zu_s]
        exact ⟨rfl, rfl, rfl⟩
      · rw [zu_n z, zu_n z, zu_n z]
        exact f3 p (by omega)
theorem s11_layNow {Q : z_M → Prop} {hr : Int} {K W Y tn : Nat → Int} (hA : wfA A P L) (hI : stM I A P L hr K W Y tn) (h : ∀ I', I' 61 = pLay A P (hr, W, Y) → (∀ k, k ≠ 61 → I' k = I k) → Q I') : CX11_layNow [aR 60] I Q := by
  obtain ⟨a0, a1, a2, a3, a4, a5⟩ := id hA
  obtain ⟨i1, i2, i3, i4⟩ := hI
  refine eX11_layNow ?_
  refine X11_layNow_0 (k := ?_)
  refine X11_layNow_1 (k := ?_)
  refine X11_layNow_4 (k := ?_)
  refine X11_layNow_5 (k := ?_)
  refine X11_layNow_6 (k := ?_)
  rw [i2]
  refine X11_layNow_9 (k := ?_)
  refine X11_layNow_10 (k := ?_)
  refine X11_layNow_11 (k := ?_)
  rw [show (2 : Int).toNat = 2 from rfl]
  refine z_for P (fun i => ∀ I2, I2 61 = pLay A i (hr, W, Y) → (∀ k, k ≠ 61 → I2 k = I k) → JX11_layNow Q 12 [aR 60, aI i] [] I2) ?_ (fun i hi ih => ?_) 0 (Nat.zero_le _) _ ?_ (fun k hk => by rw [z_up_n hk])
  · intro I2 f1 f2
    refine X11_layNow_12 (k := ?_)
    refine X11_layNow_13 (k := ?_)
    refine X11_layNow_14 (k := ?_)
    refine s11_pipes ?_
    rw [f1, pLay_n (by decide) (by omega), a0]
    refine X11_layNow_17 (kt := fun k17 => ?_) (kf := fun k17 => ?_)
    · refine X11_layNow_64 (hq := ?_)
      exact h I2 f1 f2
    · omega
  · intro I2 f1 f2
    refine X11_layNow_12 (k := ?_)
    refine X11_layNow_13 (k := ?_)
    refine X11_layNow_14 (k := ?_)
    refine s11_pipes ?_
    rw [f1, pLay_n (by decide) (by omega), a0]
    refine X11_layNow_17 (kt := fun k17 => ?_) (kf := fun k17 => ?_)
    · omega
    · refine X11_layNow_20 (k := ?_)
      refine X11_layNow_21 (k := ?_)
      refine X11_layNow_24 (k := ?_)
      refine X11_layNow_26 (k := ?_)
      refine X11_layNow_27 (k := ?_)
      refine X11_layNow_28 (k := ?_)
      refine X11_layNow_29 (k := ?_)
      refine X11_layNow_30 (k := ?_)
      refine X11_layNow_31 (k := ?_)
      refine X11_layNow_32 (k := ?_)
      refine X11_layNow_33 (k := ?_)
      refine X11_layNow_36 (k := ?_)
      refine X11_layNow_37 (k := ?_)
      rw [Int.toNat_natCast, f2 66 (by decide), (i3 i hi).2.1]
      refine X11_layNow_38 (k := ?_)
      refine X11_layNow_39 (k := ?_)
      refine X11_layNow_40 (k := ?_)
      refine X11_layNow_43 (k := ?_)
      refine X11_layNow_45 (k := ?_)
      refine X11_layNow_46 (k := ?_)
      refine X11_layNow_47 (k := ?_)
      refine X11_layNow_48 (k := ?_)
      refine X11_layNow_49 (k := ?_)
      refine X11_layNow_50 (k := ?_)
      refine X11_layNow_51 (k := ?_)
      refine X11_layNow_52 (k := ?_)
      refine X11_layNow_55 (k := ?_)
      refine X11_layNow_56 (k := ?_)
      (try simp (disch := omega) only [z_up_n, z_up_s, zu_s, zu_n, Int.toNat_natCast])
      rw [f2 67 (by decide), (i3 i hi).2.2]
      refine X11_layNow_57 (k := ?_)
      refine X11_layNow_58 (k := ?_)
      refine X11_layNow_61 (k := ?_)
      rw [show (30 + 4 * (i : Int) + 2).toNat = 30 + 4 * i + 2 by omega, show (30 + 4 * (i : Int) + 3).toNat = 30 + 4 * i + 3 by omega]
      refine ih _ ?_ (fun k hk => by rw [z_up_n hk, z_up_n hk]; exact f2 k hk)
      rw [z_up_s, z_up_s, f1]
      funext j
      unfold zu pLay
      by_cases h1 : j = 30 + 4 * i + 3
      · rw [if_pos h1, if_neg (by omega), if_neg (by omega), if_pos (by omega)]
        exact congrArg _ (by omega)
      · rw [if_neg h1]
        by_cases h2 : j = 30 + 4 * i + 2
        · rw [if_pos h2, if_neg (by omega), if_pos (by omega)]
          exact congrArg _ (by omega)
        · rw [if_neg h2]
          exact z_ite Iff.rfl (fun _ => rfl) (fun _ => z_ite (by omega) (fun _ => rfl) (fun _ => z_ite (by omega) (fun _ => rfl) (fun _ => rfl)))
  · rw [z_up_s, i1]
    funext j
    unfold zu pLay
    by_cases h3 : j = 2
    · rw [if_pos h3, if_pos h3]
    · rw [if_neg h3, if_neg h3, if_neg (by omega), if_neg (by omega)]
end PB
