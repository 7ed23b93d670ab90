/-! walk, the model's side: all orders are tried -/
section QG
variable {I I' : z_M} {b c : Nat} {A A' : Nat → Int} {P L : Nat}
def wF (A : Nat → Int) (e : Nat → Nat) (l : List Nat) : Int × Int := (wl A (-1) (l.map e), (((l.map e).getD 0 0 : Nat) : Int))
def okl (k : Nat) (l : List Nat) : Bool := decide (l.length = k) && l.all (fun x => decide (x < k))
def good (k : Nat) : Nat → List Nat → Bool
  | 0, _ => true
  | f + 1, l => okl k l && (if f = 0 then decide (pv (fun t => l.getD t 0) (k - 1) = -1) else decide (0 ≤ pv (fun t => l.getD t 0) (k - 1))) && good k f (nl k l)
theorem all_good : ∀ k, k < 6 → 0 < k → good k (fc k) (List.range k) = true := by decide +kernel
theorem all_okl : ∀ k, k < 6 → (oS k).all (okl k) = true := by decide +kernel
theorem all_isP : ∀ L, L < 6 → ∀ s, s < 2 ^ L → (oS (z_cnt (Nat.testBit s) L)).all (fun l => isP L s (l.map (nb (Nat.testBit s) L))) = true := by decide +kernel
theorem all_en : ∀ L, L < 6 → ∀ s, s < 2 ^ L → (en L s s).all (fun l => ((oS (z_cnt (Nat.testBit s) L)).map (fun l => l.map (nb (Nat.testBit s) L))).contains l) = true := by decide +kernel
def prw : List Nat → Bool
  | [] => true
  | a :: l => l.all (fun x => decide (a ≤ x)) && prw l
theorem all_prw : ∀ k, k < 6 → prw ((oS k).map (fun l => l.getD 0 0)) = true := by decide +kernel
theorem fc_p : ∀ k, k < 6 → 0 < fc k := by decide
theorem prw_p : ∀ l, prw l = true → l.Pairwise (fun x y => x ≤ y)
  | [], _ => List.Pairwise.nil
  | a :: l, h => by
    unfold prw at h
    rw [Bool.and_eq_true, List.all_eq_true] at h
    exact List.Pairwise.cons (fun x hx => of_decide_eq_true (h.1 x hx)) (prw_p l h.2)
theorem getD_all {p : Nat → Bool} : ∀ (l : List Nat) (t : Nat), t < l.length → l.all p = true → p (l.getD t 0) = true
  | [], _, h, _ => absurd h (Nat.not_lt_zero _)
  | y :: l, 0, _, e => by
    rw [List.all_cons, Bool.and_eq_true] at e
    exact e.1
  | y :: l, t + 1, h, e => by
    rw [List.all_cons, Bool.and_eq_true] at e
    exact getD_all l t (Nat.lt_of_succ_lt_succ h) e.2
theorem getD_map {e : Nat → Nat} : ∀ (l : List Nat) (t : Nat), t < l.length → (l.map e).getD t 0 = e (l.getD t 0)
  | [], _, h => absurd h (Nat.not_lt_zero _)
  | y :: l, 0, _ => rfl
  | y :: l, t + 1, h => getD_map l t (Nat.lt_of_succ_lt_succ h)
theorem nl_at {k t : Nat} {g : Nat → Nat} (h : t < k) : ((List.range k).map g).getD t 0 = g t := by
  rw [getD_map _ _ (by rw [List.length_range]; exact h), List.getD_eq_getElem?_getD, List.getElem?_range h]
  rfl
theorem okl_r {k : Nat} {l : List Nat} (h : okl k l = true) : l.length = k ∧ ∀ t, t < k → l.getD t 0 < k := by
  unfold okl at h
  rw [Bool.and_eq_true, decide_eq_true_iff] at h
  refine ⟨h.1, fun t ht => ?_⟩
  exact of_decide_eq_true (getD_all l t (by omega) h.2)
theorem wB_c {o o' : Nat → Nat} : ∀ n, (∀ t, t ≤ n → o t = o' t) → wB A o n = wB A o' n
  | 0, _ => rfl
  | n + 1, h => by
    rw [wB, wB, wB_c n (fun t ht => h t (by omega)), h n (by omega), h (n + 1) (Nat.le_refl _)]
theorem wB_s {o : Nat → Nat} : ∀ n, wB A o (n + 1) = pFar A (o 0) (o 1) + wB A (fun t => o (t + 1)) n
  | 0 => by
    rw [wB, wB, wB, Int.zero_add, Int.add_zero]
  | n + 1 => by
    rw [wB, wB_s n, wB]
    omega
theorem wl_wB : ∀ (l : List Nat) (y : Nat) (here : Int), wl A here (y :: l) = pFar A here y + wB A (fun t => (y :: l).getD t 0) l.length + pFar A (((y :: l).getD l.length 0 : Nat) : Int) (-1)
  | [], y, here => by
    rw [wl, wl]
    show _ = pFar A here y + 0 + pFar A y (-1)
    omega
  | z :: l, y, here => by
    rw [wl, wl_wB l z y, List.length_cons, wB_s]
    show pFar A here y + (pFar A y z + wB A (fun t => (z :: l).getD t 0) l.length + pFar A (((z :: l).getD l.length 0 : Nat) : Int) (-1)) = pFar A here y + (pFar A y z + wB A (fun t => (z :: l).getD t 0) l.length) + pFar A (((z :: l).getD l.length 0 : Nat) : Int) (-1)
    omega
theorem wF_e {k : Nat} {l : List Nat} {e : Nat → Nat} (hk : 0 < k) (h : okl k l = true) : wF A e l = (wL A (fun t => e (l.getD t 0)) k, ((e (l.getD 0 0) : Nat) : Int)) := by
  obtain ⟨h1, -⟩ := okl_r h
  cases l with
  | nil =>
    rw [List.length_nil] at h1
    omega
  | cons y l =>
    rw [List.length_cons] at h1
    subst h1
    unfold wF
    refine Prod.ext ?_ rfl
    dsimp only
    rw [List.map_cons, wl_wB, List.length_map]
    unfold wL
    have hm : ∀ t, t ≤ l.length → (e y :: l.map e).getD t 0 = e ((y :: l).getD t 0) := fun t ht => getD_map (y :: l) t (by rw [List.length_cons]; omega)
    rw [wB_c (o := fun t => (e y :: l.map e).getD t 0) (o' := fun t => e ((y :: l).getD t 0)) l.length hm, hm l.length (Nat.le_refl _)]
    rfl
theorem ord_c {k : Nat} {o o' : Nat → Nat} (h : ord I k o) (e : ∀ t, t < k → o t = o' t) : ord I k o' := fun t ht => by
  rw [h t ht, e t ht]
theorem s11_layStep {Q : z_M → Prop} {o : Nat → Nat} {k s : Nat} {x : Int × Int} {v : z_V} (hA : wfA A P L) (hk : 0 < k) (hk5 : k ≤ 5) (hI : I 61 = A) (hO : ord I k o) (ho : ∀ i, i < k → o i < L) (x1 : I 60 12 = x.1) (x2 : I 60 13 = x.2) (h : ∀ (I' : z_M) (v : z_V), I' 60 12 = (st2 x (wL A o k, (o 0 : Int))).1 → I' 60 13 = (st2 x (wL A o k, (o 0 : Int))).2 → (∀ q, q ≠ 60 → I' q = I q) → (∀ j, j ≠ 12 → j ≠ 13 → I' 60 j = I 60 j) → JX11_layWalk Q 125 [aR 60, aI s, aI k, aI 1, v] [] I') : JX11_layWalk Q 70 [aR 60, aI s, aI k, aI 1, v] [] I := by
  unfold st2 at h
  dsimp only at h
  refine X11_layWalk_70 (k := ?_)
  refine X11_layWalk_71 (k := ?_)
  refine X11_layWalk_72 (k := ?_)
  refine s11_longOf hk hk5 hA hI hO ho ?_
  refine X11_layWalk_75 (k := ?_)
  refine X11_layWalk_77 (k := ?_)
  refine X11_layWalk_78 (k := ?_)
  refine X11_layWalk_80 (k := ?_)
  refine X11_layWalk_81 (k := ?_)
  rw [x1]
  refine X11_layWalk_84 (kt := fun k84 => ?_) (kf := fun k84 => ?_)
  · refine X11_layWalk_96 (k := ?_)
    refine X11_layWalk_97 (k := ?_)
    rw [x2]
    refine X11_layWalk_100 (k := ?_)
    refine X11_layWalk_103 (k := ?_)
    refine X11_layWalk_104 (k := ?_)
    refine X11_layWalk_106 (k := ?_)
    refine X11_layWalk_107 (k := ?_)
    rw [z_up_s, zu_n (by decide), x1]
    refine X11_layWalk_110 (kt := fun k110 => ?_) (kf := fun k110 => ?_)
    · refine X11_layWalk_118 (k := ?_)
      refine X11_layWalk_119 (k := ?_)
      rw [z_up_s, zu_n (by decide), x1]
      refine X11_layWalk_122 (k := ?_)
      rw [if_neg (by omega)] at h
      exact h _ _ (by simp [z_up]) (by simp [z_up]) (fun q hq => by rw [z_up_n hq, z_up_n hq]) (fun j j1 j2 => by rw [z_up_s, zu_n j1, z_up_s, zu_n j2])
    · omega
  · refine X11_layWalk_87 (k := ?_)
    refine X11_layWalk_88 (k := ?_)
    refine X11_layWalk_91 (k := ?_)
    refine X11_layWalk_92 (k := ?_)
    rw [show (0 : Int).toNat = 0 from rfl, hO 0 hk]
    refine X11_layWalk_93 (k := ?_)
    refine X11_layWalk_100 (k := ?_)
    refine X11_layWalk_103 (k := ?_)
    refine X11_layWalk_104 (k := ?_)
    refine X11_layWalk_106 (k := ?_)
    refine X11_layWalk_107 (k := ?_)
    rw [z_up_s, zu_n (by decide), x1]
    refine X11_layWalk_110 (kt := fun k110 => ?_) (kf := fun k110 => ?_)
    · omega
    · refine X11_layWalk_113 (k := ?_)
      refine X11_layWalk_115 (k := ?_)
      refine X11_layWalk_122 (k := ?_)
      rw [if_pos (by omega)] at h
      exact h _ _ (by simp [z_up]) (by simp [z_up]) (fun q hq => by rw [z_up_n hq, z_up_n hq]) (fun j j1 j2 => by rw [z_up_s, zu_n j1, z_up_s, zu_n j2])
theorem s11_layLoop {Q : z_M → Prop} {e : Nat → Nat} {k s : Nat} (hA : wfA A P L) (hk : 0 < k) (hk5 : k ≤ 5) (he : ∀ i, i < k → e i < L) (hem : ∀ i j, i < j → j < k → e i < e j) : ∀ (f : Nat) (l : List Nat) (I : z_M) (x : Int × Int) (v : z_V), good k (f + 1) l = true → I 61 = A → ord I k (fun t => e (l.getD t 0)) → I 60 12 = x.1 → I 60 13 = x.2 → (∀ I', I' 60 12 = (((orb k (f + 1) l).map (wF A e)).foldl st2 x).1 → I' 60 13 = (((orb k (f + 1) l).map (wF A e)).foldl st2 x).2 → (∀ q, q ≠ 69 → q ≠ 60 → I' q = I q) → (∀ j, j ≠ 12 → j ≠ 13 → I' 60 j = I 60 j) → Q I') → JX11_layWalk Q 70 [aR 60, aI s, aI k, aI 1, v] [] I := by
  intro f
  induction f with
  | zero =>
    intro l I x v g hI hO x1 x2 h
    unfold good at g
    rw [Bool.and_eq_true, Bool.and_eq_true, if_pos rfl, decide_eq_true_iff] at g
    obtain ⟨⟨g1, g2⟩, -⟩ := g
    obtain ⟨l1, l2⟩ := okl_r g1
    have hmi : ∀ a b, a ≤ k - 1 → b ≤ k - 1 → (e (l.getD a 0) < e (l.getD b 0) ↔ l.getD a 0 < l.getD b 0) := fun a b ha hb => by
      have a1 := l2 a (by omega)
      have b1 := l2 b (by omega)
      rcases Nat.lt_trichotomy (l.getD a 0) (l.getD b 0) with q | q | q
      · exact ⟨fun _ => q, fun _ => hem _ _ q b1⟩
      · rw [q]
        exact ⟨fun w => absurd w (Nat.lt_irrefl _), fun w => absurd w (Nat.lt_irrefl _)⟩
      · have := hem _ _ q a1
        exact ⟨fun w => by omega, fun w => by omega⟩
    refine s11_layStep (o := fun t => e (l.getD t 0)) (x := x) hA hk hk5 hI hO (fun i hi => he _ (l2 i hi)) x1 x2 (fun I1 v y1 y2 y3 y4 => ?_)
    refine X11_layWalk_125 (k := ?_)
    refine X11_layWalk_126 (k := ?_)
    refine X11_layWalk_127 (k := ?_)
    refine s11_nextOrder (o := fun t => e (l.getD t 0)) hk hk5 (fun t ht => by rw [y3 69 (by decide)]; exact hO t ht) (fun _ => ?_) (fun i hi => ?_)
    · rw [show ((orb k (0 + 1) l).map (wF A e)).foldl st2 x = st2 x (wF A e l) from rfl, wF_e hk g1] at h
      refine X11_layWalk_130 (k := ?_)
      refine X11_layWalk_131 (k := ?_)
      refine X11_layWalk_66 (k := ?_)
      refine X11_layWalk_67 (kt := fun k67 => ?_) (kf := fun k67 => ?_)
      · refine X11_layWalk_134 (hq := ?_)
        exact h I1 y1 y2 (fun q q1 q2 => y3 q q2) y4
      · omega
    · rw [pv_e (k - 1) hmi, g2] at hi
      omega
  | succ f ih =>
    intro l I x v g hI hO x1 x2 h
    unfold good at g
    rw [Bool.and_eq_true, Bool.and_eq_true, if_neg (Nat.succ_ne_zero f), decide_eq_true_iff] at g
    obtain ⟨⟨g1, g2⟩, g3⟩ := g
    obtain ⟨l1, l2⟩ := okl_r g1
    have hmi : ∀ a b, a ≤ k - 1 → b ≤ k - 1 → (e (l.getD a 0) < e (l.getD b 0) ↔ l.getD a 0 < l.getD b 0) := fun a b ha hb => by
      have a1 := l2 a (by omega)
      have b1 := l2 b (by omega)
      rcases Nat.lt_trichotomy (l.getD a 0) (l.getD b 0) with q | q | q
      · exact ⟨fun _ => q, fun _ => hem _ _ q b1⟩
      · rw [q]
        exact ⟨fun w => absurd w (Nat.lt_irrefl _), fun w => absurd w (Nat.lt_irrefl _)⟩
      · have := hem _ _ q a1
        exact ⟨fun w => by omega, fun w => by omega⟩
    refine s11_layStep (o := fun t => e (l.getD t 0)) (x := x) hA hk hk5 hI hO (fun i hi => he _ (l2 i hi)) x1 x2 (fun I1 v y1 y2 y3 y4 => ?_)
    refine X11_layWalk_125 (k := ?_)
    refine X11_layWalk_126 (k := ?_)
    refine X11_layWalk_127 (k := ?_)
    refine s11_nextOrder (o := fun t => e (l.getD t 0)) hk hk5 (fun t ht => by rw [y3 69 (by decide)]; exact hO t ht) (fun q => ?_) (fun i hi I2 z1 z2 => ?_)
    · rw [pv_e (k - 1) hmi] at q
      omega
    · rw [pv_e (k - 1) hmi] at hi
      have hr := pv_r (o := fun t => l.getD t 0) (k - 1)
      rw [hi] at hr
      rw [nx_e (by omega) hmi] at z1
      rw [show ((orb k (f + 1 + 1) l).map (wF A e)).foldl st2 x = ((orb k (f + 1) (nl k l)).map (wF A e)).foldl st2 (st2 x (wF A e l)) from rfl, wF_e hk g1] at h
      refine X11_layWalk_130 (k := ?_)
      refine X11_layWalk_131 (k := ?_)
      refine X11_layWalk_66 (k := ?_)
      refine X11_layWalk_67 (kt := fun k67 => ?_) (kf := fun k67 => ?_)
      · omega
      refine ih (nl k l) I2 _ _ g3 (by rw [z2 61 (by decide), y3 61 (by decide)]; exact hI) (ord_c z1 (fun t ht => ?_)) (by rw [z2 60 (by decide)]; exact y1) (by rw [z2 60 (by decide)]; exact y2) (fun I3 w1 w2 w3 w4 => h I3 w1 w2 (fun q q1 q2 => by rw [w3 q q1 q2, z2 q q1, y3 q q2]) (fun j j1 j2 => by rw [w4 j j1 j2, z2 60 (by decide), y4 j j1 j2]))
      unfold nl
      rw [nl_at ht, hi, Int.toNat_natCast]
theorem s11_layWalk {Q : z_M → Prop} {s : Nat} (hA : wfA A P L) (hI : I 61 = A) (hs : s < 2 ^ L) (h : ∀ I', I' 60 12 = (wR A L s).1 → I' 60 13 = (wR A L s).2 → (∀ q, q ≠ 69 → q ≠ 60 → I' q = I q) → (∀ j, j ≠ 12 → j ≠ 13 → I' 60 j = I 60 j) → Q I') : CX11_layWalk [aR 60, aI s] I Q := by
  have hL := hA.2.2.2.1
  refine eX11_layWalk ?_
  refine X11_layWalk_0 (k := ?_)
  refine X11_layWalk_1 (k := ?_)
  refine X11_layWalk_2 (k := ?_)
  refine X11_layWalk_3 (k := ?_)
  refine s11_layOrder hA hI hs (fun I1 hO hf => ?_)
  have nr := nb_r (c := Nat.testBit s) L
  have nm := @nb_mono (Nat.testBit s) L
  have nf : ∀ y, y < L → Nat.testBit s y = true → 0 < z_cnt (Nat.testBit s) L := fun y hy e1 => by
    have := (nb_of L hy e1).2
    omega
  have hcl := z_cnt_le (Nat.testBit s) L
  have qP := all_isP L (by omega) s hs
  have qE := all_en L (by omega) s hs
  generalize z_cnt (Nat.testBit s) L = k at *
  generalize nb (Nat.testBit s) L = e at *
  by_cases z : k = 0
  · have s0 : s = 0 := by
      apply Decidable.byContradiction
      intro q
      obtain ⟨y, hy, e1⟩ := bit_ex hs q
      have := nf y hy e1
      omega
    subst s0
    subst z
    rw [show wR A L 0 = (0, -1) from rfl] at h
    refine X11_layWalk_37 (k := ?_)
    refine X11_layWalk_38 (k := ?_)
    refine X11_layWalk_39 (kt := fun k39 => ?_) (kf := fun k39 => ?_)
    · omega
    · refine X11_layWalk_42 (k := ?_)
      refine X11_layWalk_43 (k := ?_)
      refine X11_layWalk_48 (k := ?_)
      refine X11_layWalk_51 (k := ?_)
      refine X11_layWalk_52 (k := ?_)
      refine X11_layWalk_53 (k := ?_)
      refine X11_layWalk_56 (k := ?_)
      refine X11_layWalk_57 (kt := fun k57 => ?_) (kf := fun k57 => ?_)
      · refine X11_layWalk_64 (k := ?_)
        refine X11_layWalk_65 (k := ?_)
        refine X11_layWalk_66 (k := ?_)
        refine X11_layWalk_67 (kt := fun k67 => ?_) (kf := fun k67 => ?_)
        · refine X11_layWalk_134 (hq := ?_)
          exact h _ (by simp [z_up]) (by simp [z_up]) (fun q q1 q2 => by rw [z_up_n q2, z_up_n q2, hf q q1]) (fun j j1 j2 => by rw [z_up_s, zu_n j2, z_up_s, zu_n j1, hf 60 (by decide)])
        · omega
      · omega
  · have s0 : s ≠ 0 := fun q => by
      have := (nr 0 (by omega)).2.1
      rw [q, Nat.zero_testBit] at this
      exact absurd this (by decide)
    have hk : 0 < k := by omega
    have hk6 : k < 6 := by omega
    obtain ⟨f, hf1⟩ : ∃ f, fc k = f + 1 := ⟨fc k - 1, by have := fc_p k hk6; omega⟩
    have gd := all_good k hk6 hk
    rw [hf1] at gd
    refine X11_layWalk_37 (k := ?_)
    refine X11_layWalk_38 (k := ?_)
    refine X11_layWalk_39 (kt := fun k39 => ?_) (kf := fun k39 => ?_)
    rotate_left 1
    · omega
    refine X11_layWalk_46 (k := ?_)
    refine X11_layWalk_48 (k := ?_)
    refine X11_layWalk_51 (k := ?_)
    refine X11_layWalk_52 (k := ?_)
    refine X11_layWalk_53 (k := ?_)
    refine X11_layWalk_56 (k := ?_)
    refine X11_layWalk_57 (kt := fun k57 => ?_) (kf := fun k57 => ?_)
    · omega
    refine X11_layWalk_60 (k := ?_)
    refine X11_layWalk_61 (k := ?_)
    refine X11_layWalk_65 (k := ?_)
    refine X11_layWalk_66 (k := ?_)
    refine X11_layWalk_67 (kt := fun k67 => ?_) (kf := fun k67 => ?_)
    · omega
    refine s11_layLoop (e := e) (x := (1000000, -1)) hA hk (by omega) (fun i hi => (nr i hi).1) (fun i j q1 q2 => nm q2 q1) f (List.range k) _ _ gd (by rw [z_up_n (by decide), z_up_n (by decide), hf 61 (by decide)]; exact hI) (fun t ht => ?_) (by simp [z_up]) (by simp [z_up]) (fun I2 w1 w2 w3 w4 => ?_)
    · rw [z_up_n (by decide), z_up_n (by decide), hO t ht]
      dsimp only
      rw [List.getD_eq_getElem?_getD, List.getElem?_range ht]
      rfl
    · rw [← hf1] at w1 w2
      have hlx := st2_fold ((oS k).map (wF A e)) (1000000, -1) (by
        rw [List.pairwise_map]
        have pp := prw_p _ (all_prw k hk6)
        rw [List.pairwise_map] at pp
        have po := List.all_eq_true.1 (all_okl k hk6)
        refine List.Pairwise.imp_of_mem (fun {a b} ha hb q => ?_) pp
        have oa := (okl_r (po a ha)).2 0 hk
        have ob := (okl_r (po b hb)).2 0 hk
        rw [wF_e hk (po a ha), wF_e hk (po b hb)]
        dsimp only
        rcases Nat.lt_or_ge (a.getD 0 0) (b.getD 0 0) with w | w
        · have := nm ob w
          omega
        · rw [show a.getD 0 0 = b.getD 0 0 by omega]
          exact Int.le_refl _) (fun x hx => by
        obtain ⟨a, -, rfl⟩ := List.mem_map.1 hx
        unfold wF
        dsimp only
        omega)
      have hr := wR_lx (A := A) (P := P) (L := L) (os := (oS k).map (fun l => l.map e)) (r := ((oS k).map (wF A e)).foldl st2 (1000000, -1)) hA hs s0 (fun l hl => by
        obtain ⟨a, a1, rfl⟩ := List.mem_map.1 hl
        exact List.all_eq_true.1 qP a a1) (fun l hl => List.contains_iff_mem.1 (List.all_eq_true.1 qE l (en_of s s l (Nat.le_refl _) hs hl))) (by
        rw [List.map_map]
        exact hlx)
      rw [← hr] at h
      exact h I2 w1 w2 (fun q q1 q2 => by rw [w3 q q1 q2, z_up_n q2, z_up_n q2, hf q q1]) (fun j j1 j2 => by rw [w4 j j1 j2, z_up_s, zu_n j2, z_up_s, zu_n j1, hf 60 (by decide)])
end QG
