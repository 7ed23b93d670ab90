/-! RULES OF THE HEAP, calls, ends -/
theorem z_lt {k c : Nat} (h : z_cl k = c) (hc : c < 99) : k < 74 := by
  apply Nat.lt_of_not_le
  intro q
  have e : z_cl k = 99 := by
    unfold z_cl
    rw [List.getD_eq_getElem?_getD, List.getElem?_eq_none_iff.mpr (by exact q)]
    rfl
  omega
theorem z_rowc {I : z_M} {k : Nat} {f : Nat → Int} (h : z_CI I) (hf : ∀ j, inI (f j)) : z_CI (z_row I k f) := by
  intro a j
  unfold z_row
  by_cases e : a = k
  · rw [if_pos e]
    exact ⟨z_inI_inL (hf j), fun _ => hf j⟩
  · rw [if_neg e]
    exact h a j
theorem z_upc {I : z_M} {k j : Nat} {x : Int} (h : z_CI I) (hx : inI x) : z_CI (z_up I k j x) := by
  intro a b
  unfold z_up
  by_cases e : a = k ∧ b = j
  · rw [if_pos e]
    exact ⟨z_inI_inL hx, fun _ => hx⟩
  · rw [if_neg e]
    exact h a b
theorem z_upcl {I : z_M} {k j : Nat} {x : Int} (h : z_CI I) (hx : inL x) (hl : z_lg k j = true) : z_CI (z_up I k j x) := by
  intro a b
  unfold z_up
  by_cases e : a = k ∧ b = j
  · rw [if_pos e]
    refine ⟨hx, fun q => ?_⟩
    rw [e.1, e.2, hl] at q
    cases q
  · rw [if_neg e]
    exact h a b
theorem z_lg_arr {k j : Nat} (h : 12 ≤ z_cl k) : z_lg k j = false := by
  unfold z_lg
  rw [decide_eq_false (by omega)]
  rfl
theorem z_lg_int {k j : Nat} (h : z_ft (z_cl k) j = 0) : z_lg k j = false := by
  unfold z_lg
  rw [h]
  simp
theorem z_fs_get {ad : Nat → Nat} {I : z_M} {k j : Nat} (h : j < z_n k) : (z_fs ad I k)[j]? = some (z_fv ad I k j (z_ft (z_cl k) j)) := by simp [z_fs, h]
theorem z_fs_set {ad : Nat → Nat} {I : z_M} {k j : Nat} {x : Int} {w : Value} (hw : w = z_fv ad (z_up I k j x) k j (z_ft (z_cl k) j)) : (z_fs ad I k).set j w = z_fs ad (z_up I k j x) k := by
  apply List.ext_getElem?
  intro i
  rw [List.getElem?_set]
  by_cases hi : j = i
  · subst hi
    rw [if_pos rfl]
    by_cases hk : j < z_n k
    · rw [z_fs_get hk, if_pos (by simpa [z_fs] using hk), hw]
    · rw [if_neg (by simpa [z_fs] using hk)]
      symm
      rw [List.getElem?_eq_none_iff]
      simp [z_fs]
      omega
  · rw [if_neg hi]
    by_cases hk : i < z_n k
    · rw [z_fs_get hk, z_fs_get hk]
      have e : z_up I k j x k i = I k i := by
        unfold z_up
        rw [if_neg (by intro q; exact hi q.2.symm)]
      unfold z_fv
      rw [e]
    · rw [List.getElem?_eq_none_iff.mpr (by simp [z_fs]; omega), List.getElem?_eq_none_iff.mpr (by simp [z_fs]; omega)]
theorem z_up_off {I : z_M} {k j : Nat} {x : Int} : ∀ a, a ≠ k → ∀ b, z_up I k j x a b = I a b := by
  intro a ha b
  unfold z_up
  rw [if_neg (by intro q; exact ha q.1)]
theorem z_row_off {I : z_M} {k : Nat} {f : Nat → Int} : ∀ a, a ≠ k → ∀ b, z_row I k f a b = I a b := by
  intro a ha b
  unfold z_row
  rw [if_neg ha]
theorem z_ent_o {ad : Nat → Nat} {cA : Nat → ClassId} {I : z_M} {k : Nat} (h : z_cl k < 12) : z_ent ad cA I k = .inr (z_cl k, z_fs ad I k) := by
  unfold z_ent
  rw [if_pos h]
theorem z_ent_a {ad : Nat → Nat} {cA : Nat → ClassId} {I : z_M} {k : Nat} (h1 : 12 ≤ z_cl k) (h2 : z_cl k < 23) : z_ent ad cA I k = .inl (cA k, (z_n k, .inl (fun j => z_i (I k j)))) := by
  unfold z_ent
  rw [if_neg (by omega), if_pos h2]
theorem z_ent_q {ad : Nat → Nat} {cA : Nat → ClassId} {I : z_M} {k : Nat} (h1 : 23 ≤ z_cl k) : z_ent ad cA I k = .inl (cA k, (z_n k, .inr (.inr (.inr (.inr (fun j => some (ad (z_rf k j)))))))) := by
  unfold z_ent
  rw [if_neg (by omega), if_neg (by omega)]
section ZH
variable {μ : z_Mt} {fin : z_Fin} {pc : Nat} {ls st : List z_V} {I : z_M}
theorem g_getf {ix k j ci N : Nat} {C : String} {T : u_T} (hd : decode μ.2.1 pc = .ok (.getfield ix, 3)) (hk : z_cl k = ci) (hvw : vwCl[ci]? = some (C, T, N)) (hci : ci < 12) (hn : z_n k = N) (hin : ∀ w ∈ u_ws C T N, w ∈ wsL_law) (hj : j < N) (hw : Cond.fieldLink μ.1 ix (T j).1 (T j).2.1 (T j).2.2.1 ∈ z_W) {v : z_V} (hv9 : ∀ ad : Nat → Nat, z_fv ad I k j (z_ft ci j) = z_cv ad v) (hc9 : z_CI I → z_ca v)
    (k9 : z_R μ fin (pc + 3) ls (v :: st) I) : z_R μ fin pc ls (aR k :: st) I := by
  intro hC hL hS p l e Rm s m args below meth c Γ G H locs lsA hP hv hl
  have hk74 := z_lt hk (by omega)
  refine va_get (ci := ci) (fs := z_fs (gad Γ) I k) G.1 G.2.1 G.2.2.2.2.2.1 (fun w h => z_WL (hin w h)) G.2.2.2.2.1 G.2.2.2.2.2.2.2.2.1 hP k (by rw [z_ws_get hk74, z_ent_o (by omega), hk]) hvw j hj (G.2.2.2.2.2.1 _ hw) (fun _ h => h) (v := z_cv (gad Γ) v) (by rw [z_fs_get (by omega), hk, hv9]) hd ?_
  exact k9 hC hL (z_cons (hc9 hC) (z_tl hS)) p l e Rm s m args below meth c Γ G H locs lsA hP hv hl
theorem g_geti {ix k j ci N : Nat} {C : String} {T : u_T} (hd : decode μ.2.1 pc = .ok (.getfield ix, 3)) (hk : z_cl k = ci) (hvw : vwCl[ci]? = some (C, T, N)) (hci : ci < 12) (hn : z_n k = N) (hin : ∀ w ∈ u_ws C T N, w ∈ wsL_law) (hj : j < N) (hw : Cond.fieldLink μ.1 ix (T j).1 (T j).2.1 (T j).2.2.1 ∈ z_W) (hft : z_ft ci j = 0)
    (k9 : z_R μ fin (pc + 3) ls (aI (I k j) :: st) I) : z_R μ fin pc ls (aR k :: st) I :=
  g_getf (v := aI (I k j)) hd hk hvw hci hn hin hj hw (fun ad => by rw [hft]; rfl) (fun hC => (hC k j).2 (z_lg_int (by rw [hk]; exact hft))) k9
theorem g_getl {ix k j ci N : Nat} {C : String} {T : u_T} (hd : decode μ.2.1 pc = .ok (.getfield ix, 3)) (hk : z_cl k = ci) (hvw : vwCl[ci]? = some (C, T, N)) (hci : ci < 12) (hn : z_n k = N) (hin : ∀ w ∈ u_ws C T N, w ∈ wsL_law) (hj : j < N) (hw : Cond.fieldLink μ.1 ix (T j).1 (T j).2.1 (T j).2.2.1 ∈ z_W) (hft : z_ft ci j = 1)
    (k9 : z_R μ fin (pc + 3) ls (aL (I k j) :: st) I) : z_R μ fin pc ls (aR k :: st) I :=
  g_getf (v := aL (I k j)) hd hk hvw hci hn hin hj hw (fun ad => by rw [hft]; rfl) (fun hC => (hC k j).1) k9
theorem g_getr {ix k j ci N q : Nat} {C : String} {T : u_T} (hd : decode μ.2.1 pc = .ok (.getfield ix, 3)) (hk : z_cl k = ci) (hvw : vwCl[ci]? = some (C, T, N)) (hci : ci < 12) (hn : z_n k = N) (hin : ∀ w ∈ u_ws C T N, w ∈ wsL_law) (hj : j < N) (hw : Cond.fieldLink μ.1 ix (T j).1 (T j).2.1 (T j).2.2.1 ∈ z_W) (hft : z_ft ci j = 2) (hq : z_rf k j = q)
    (k9 : z_R μ fin (pc + 3) ls (aR q :: st) I) : z_R μ fin pc ls (aR k :: st) I :=
  g_getf hd hk hvw hci hn hin hj hw (v := aR q) (fun ad => by rw [hft, ← hq]; rfl) (fun _ => trivial) k9
theorem g_putf {ix k j ci N : Nat} {C : String} {T : u_T} {ty0 : Nat → FieldType} {ty : FieldType} {v : z_V} {x : Int} (hd : decode μ.2.1 pc = .ok (.putfield ix, 3)) (hk : z_cl k = ci) (hvw : vwCl[ci]? = some (C, T, N)) (hci : ci < 12) (hn : z_n k = N) (hin : ∀ w ∈ u_ws C T N, w ∈ wsL_law) (hty : ∀ k, k < N → parseFieldDescriptor (T k).2.2.1 = some (ty0 k)) (hnm : ∀ a, a < N → ∀ b, b < N → a ≠ b → (T a).2.1 ≠ (T b).2.1) (hj : j < N) (hw : Cond.fieldLink μ.1 ix (T j).1 (T j).2.1 (T j).2.2.1 ∈ z_W) (hfin : (T j).2.2.2 = false) (hty1 : parseFieldDescriptor (T j).2.2.1 = some ty)
    (hna : ∀ ad : Nat → Nat, narrow ty (z_cv ad v) = z_cv ad v ∧ fits ty (z_cv ad v) = true) (hv9 : ∀ ad : Nat → Nat, z_cv ad v = z_fv ad (z_up I k j x) k j (z_ft ci j)) (hc9 : z_CI I → z_ca v → z_CI (z_up I k j x))
    (k9 : z_R μ fin (pc + 3) ls st (z_up I k j x)) : z_R μ fin pc ls (v :: aR k :: st) I := by
  intro hC hL hS p l e Rm s m args below meth c Γ G H locs lsA hP hv hl
  have hk74 := z_lt hk (by omega)
  have hok := G.2.2.2.2.2.2.2.2.2.1
  refine va_put (ci := ci) (fs := z_fs (gad Γ) I k) G.1 G.2.1 G.2.2.2.2.2.1 (fun w h => z_WL (hin w h)) ty0 hty hnm G.2.2.2.2.1 G.2.2.2.2.2.2.2.2.1 hP (hok.D I) hv k (by rw [z_ws_get hk74, z_ent_o (by omega), hk]) hvw j hj (G.2.2.2.2.2.1 _ hw) (fun _ h => h) hfin hty1 (hna _).1 (hna _).2 (by simp [z_fs]; omega) hd (fun H1 locs1 hP1 hD1 hS1 => ?_)
  rw [z_ws_set (I' := z_up I k j x) z_up_off (by rw [z_ent_o (by omega), hk, z_fs_set (by rw [hk]; exact hv9 _)])] at hP1
  exact k9 (hc9 hC (z_hd hS)) hL (z_tl (z_tl hS)) p l e Rm s m args below meth c Γ G H1 locs1 lsA hP1 hS1 hl
theorem g_puti {ix k j ci N : Nat} {C : String} {T : u_T} {ty0 : Nat → FieldType} {x : Int} (hd : decode μ.2.1 pc = .ok (.putfield ix, 3)) (hk : z_cl k = ci) (hvw : vwCl[ci]? = some (C, T, N)) (hci : ci < 12) (hn : z_n k = N) (hin : ∀ w ∈ u_ws C T N, w ∈ wsL_law) (hty : ∀ k, k < N → parseFieldDescriptor (T k).2.2.1 = some (ty0 k)) (hnm : ∀ a, a < N → ∀ b, b < N → a ≠ b → (T a).2.1 ≠ (T b).2.1) (hj : j < N) (hw : Cond.fieldLink μ.1 ix (T j).1 (T j).2.1 (T j).2.2.1 ∈ z_W) (hfin : (T j).2.2.2 = false) (hty1 : parseFieldDescriptor (T j).2.2.1 = some .int) (hft : z_ft ci j = 0)
    (k9 : z_R μ fin (pc + 3) ls st (z_up I k j x)) : z_R μ fin pc ls (aI x :: aR k :: st) I :=
  g_putf (x := x) hd hk hvw hci hn hin hty hnm hj hw hfin hty1 (fun ad => ⟨rfl, rfl⟩) (fun ad => by rw [hft]; unfold z_fv z_up; simp; rfl) (fun hC hx => z_upc hC hx) k9
theorem g_putl {ix k j ci N : Nat} {C : String} {T : u_T} {ty0 : Nat → FieldType} {x : Int} (hd : decode μ.2.1 pc = .ok (.putfield ix, 3)) (hk : z_cl k = ci) (hvw : vwCl[ci]? = some (C, T, N)) (hci : ci < 12) (hn : z_n k = N) (hin : ∀ w ∈ u_ws C T N, w ∈ wsL_law) (hty : ∀ k, k < N → parseFieldDescriptor (T k).2.2.1 = some (ty0 k)) (hnm : ∀ a, a < N → ∀ b, b < N → a ≠ b → (T a).2.1 ≠ (T b).2.1) (hj : j < N) (hw : Cond.fieldLink μ.1 ix (T j).1 (T j).2.1 (T j).2.2.1 ∈ z_W) (hfin : (T j).2.2.2 = false) (hty1 : parseFieldDescriptor (T j).2.2.1 = some .long) (hft : z_ft ci j = 1)
    (k9 : z_R μ fin (pc + 3) ls st (z_up I k j x)) : z_R μ fin pc ls (aL x :: aR k :: st) I :=
  g_putf (x := x) hd hk hvw hci hn hin hty hnm hj hw hfin hty1 (fun ad => ⟨rfl, rfl⟩) (fun ad => by rw [hft]; unfold z_fv z_up; simp; rfl) (fun hC hx => z_upcl hC hx (by unfold z_lg; rw [hk, hft]; simp [hci])) k9
theorem z_arr {Γ : z_G} {k c : Nat} (h : z_cl k = c) (h1 : 12 ≤ c) (h2 : c < 23) : (z_ws (gad Γ) (gcA Γ) I)[k]? = some (gad Γ k, .inl (gcA Γ k, z_n k, .inl (fun j => z_i (I k j)))) := by
  rw [z_ws_get (z_lt h (by omega)), z_ent_a (by omega) (by omega)]
theorem z_tya {cA : Nat → ClassId} {k c : Nat} {ty : FieldType} (h : z_cl k = c) (hc : c < 99) (ht : z_ty k = ty) : (z_tys cA)[k]? = some (cA k, ty) := by
  rw [z_tys_get (z_lt h hc), ht]
theorem g_iald {k : Nat} {i : Int} (hd : decode μ.2.1 pc = .ok (.iaload, 1)) (hk : z_cl k = 20) (h0 : 0 ≤ i) (h1 : i < z_n k) (k9 : z_R μ fin (pc + 1) ls (aI (I k i.toNat) :: st) I) : z_R μ fin pc ls (aI i :: aR k :: st) I := by
  intro hC hL hS p l e Rm s m args below meth c Γ G H locs lsA hP hv hl
  have hi := z_hd hS
  refine va_iald G.1 G.2.1 G.2.2.2.2.2.2.2.2.1 hP k k (z_arr hk (by omega) (by omega)) (z_tya hk (by omega) (by unfold z_ty; rw [hk]; rfl)) (z_vp hi h0 h1) hd ?_
  rw [z_tn hi]
  exact k9 hC hL (z_cons ((hC _ _).2 (z_lg_arr (by omega))) (z_tl (z_tl hS))) p l e Rm s m args below meth c Γ G H locs lsA hP hv hl
theorem g_bald {k : Nat} {i : Int} (hd : decode μ.2.1 pc = .ok (.baload, 1)) (hk : z_cl k = 21) (h0 : 0 ≤ i) (h1 : i < z_n k) (k9 : z_R μ fin (pc + 1) ls (aI (I k i.toNat) :: st) I) : z_R μ fin pc ls (aI i :: aR k :: st) I := by
  intro hC hL hS p l e Rm s m args below meth c Γ G H locs lsA hP hv hl
  have hi := z_hd hS
  refine va_bald G.1 G.2.1 G.2.2.2.2.2.2.2.2.1 hP k k (z_arr hk (by omega) (by omega)) (z_tya hk (by omega) (by unfold z_ty; rw [hk]; rfl)) (z_vp hi h0 h1) hd ?_
  rw [z_tn hi]
  exact k9 hC hL (z_cons ((hC _ _).2 (z_lg_arr (by omega))) (z_tl (z_tl hS))) p l e Rm s m args below meth c Γ G H locs lsA hP hv hl
theorem g_zald {k : Nat} {i : Int} (hd : decode μ.2.1 pc = .ok (.baload, 1)) (hk : z_cl k = 22) (h0 : 0 ≤ i) (h1 : i < z_n k) (k9 : z_R μ fin (pc + 1) ls (aI (I k i.toNat) :: st) I) : z_R μ fin pc ls (aI i :: aR k :: st) I := by
  intro hC hL hS p l e Rm s m args below meth c Γ G H locs lsA hP hv hl
  have hi := z_hd hS
  refine va_zald G.1 G.2.1 G.2.2.2.2.2.2.2.2.1 hP k k (z_arr hk (by omega) (by omega)) (z_tya hk (by omega) (by unfold z_ty; rw [hk]; rfl)) (z_vp hi h0 h1) hd ?_
  rw [z_tn hi]
  exact k9 hC hL (z_cons ((hC _ _).2 (z_lg_arr (by omega))) (z_tl (z_tl hS))) p l e Rm s m args below meth c Γ G H locs lsA hP hv hl
theorem g_aald {k c q : Nat} {E : String} {i : Int} (hd : decode μ.2.1 pc = .ok (.aaload, 1)) (hk : z_cl k = c) (hc : 23 ≤ c) (hc2 : c < 99) (hE : z_ty k = .object E) (h0 : 0 ≤ i) (h1 : i < z_n k) (hq : z_rf k i.toNat = q) (k9 : z_R μ fin (pc + 1) ls (aR q :: st) I) : z_R μ fin pc ls (aI i :: aR k :: st) I := by
  intro hC hL hS p l e Rm s m args below meth c Γ G H locs lsA hP hv hl
  have hi := z_hd hS
  refine va_aldq G.1 G.2.1 G.2.2.2.2.2.2.2.2.1 hP k k (by rw [z_ws_get (z_lt hk (by omega)), z_ent_q (by omega)]) (z_tya hk (by omega) hE) (z_vp hi h0 h1) hd ?_
  rw [z_tn hi, hq]
  exact k9 hC hL (z_cons trivial (z_tl (z_tl hS))) p l e Rm s m args below meth c Γ G H locs lsA hP hv hl
theorem g_alenq {k c : Nat} {E : String} (hd : decode μ.2.1 pc = .ok (.arraylength, 1)) (hk : z_cl k = c) (hc : 23 ≤ c) (hc2 : c < 99) (hE : z_ty k = .object E) (hr : inI (z_n k)) (k9 : z_R μ fin (pc + 1) ls (aI (z_n k) :: st) I) : z_R μ fin pc ls (aR k :: st) I := by
  intro hC hL hS p l e Rm s m args below meth c Γ G H locs lsA hP hv hl
  refine va_alen (x := (z_n k, .inr (.inr (.inr (.inr (fun j => some (gad Γ (z_rf k j)))))))) G.1 G.2.1 G.2.2.2.2.2.2.2.2.1 hP k k (by rw [z_ws_get (z_lt hk (by omega)), z_ent_q (by omega)]) (z_tya hk (by omega) hE) (v := z_i (z_n k)) (z_iN (z_n k)).symm hd ?_
  exact k9 hC hL (z_cons hr (z_tl hS)) p l e Rm s m args below meth c Γ G H locs lsA hP hv hl
theorem z_up_fun {I : z_M} {k j : Nat} {x : Int} : (fun b => z_i (z_up I k j x k b)) = upd (fun b => z_i (I k b)) j (z_i x) := by
  funext b
  unfold z_up upd
  by_cases h : b = j
  · simp [h]
  · simp [h]
theorem z_aset {Γ : z_G} {k c j : Nat} {x : Int} (h : z_cl k = c) (h1 : 12 ≤ c) (h2 : c < 23) : (z_ws (gad Γ) (gcA Γ) I).set k (gad Γ k, .inl (gcA Γ k, z_n k, .inl (upd (fun b => z_i (I k b)) j (z_i x)))) = z_ws (gad Γ) (gcA Γ) (z_up I k j x) :=
  z_ws_set z_up_off (by rw [z_ent_a (by omega) (by omega), z_up_fun])
theorem g_iast {k : Nat} {i x : Int} (hd : decode μ.2.1 pc = .ok (.iastore, 1)) (hk : z_cl k = 20) (h0 : 0 ≤ i) (h1 : i < z_n k) (k9 : z_R μ fin (pc + 1) ls st (z_up I k i.toNat x)) : z_R μ fin pc ls (aI x :: aI i :: aR k :: st) I := by
  intro hC hL hS p l e Rm s m args below meth c Γ G H locs lsA hP hv hl
  have hi := z_hd (z_tl hS)
  refine va_iast G.1 G.2.1 G.2.2.2.2.2.2.2.2.1 hP (G.2.2.2.2.2.2.2.2.2.1.D I) hv k k (z_arr hk (by omega) (by omega)) (z_tya hk (by omega) (by unfold z_ty; rw [hk]; rfl)) (z_vp hi h0 h1) hd (fun H1 locs1 hP1 hD1 hS1 => ?_)
  rw [z_tn hi, z_aset hk (by omega) (by omega)] at hP1
  exact k9 (z_upc hC (z_hd hS)) hL (z_tl (z_tl (z_tl hS))) p l e Rm s m args below meth c Γ G H1 locs1 lsA hP1 hS1 hl
theorem g_bast {k : Nat} {i x : Int} (hd : decode μ.2.1 pc = .ok (.bastore, 1)) (hk : z_cl k = 21) (h0 : 0 ≤ i) (h1 : i < z_n k) (hx : -128 ≤ x ∧ x ≤ 127) (k9 : z_R μ fin (pc + 1) ls st (z_up I k i.toNat x)) : z_R μ fin pc ls (aI x :: aI i :: aR k :: st) I := by
  intro hC hL hS p l e Rm s m args below meth c Γ G H locs lsA hP hv hl
  have hi := z_hd (z_tl hS)
  refine va_bast G.1 G.2.1 G.2.2.2.2.2.2.2.2.1 hP (G.2.2.2.2.2.2.2.2.2.1.D I) hv k k (z_arr hk (by omega) (by omega)) (z_tya hk (by omega) (by unfold z_ty; rw [hk]; rfl)) (z_vp hi h0 h1) hd (fun H1 locs1 hP1 hD1 hS1 => ?_)
  rw [z_tn hi, vp_nar_byte, z_i2b hx, z_aset hk (by omega) (by omega)] at hP1
  exact k9 (z_upc hC (z_hd hS)) hL (z_tl (z_tl (z_tl hS))) p l e Rm s m args below meth c Γ G H1 locs1 lsA hP1 hS1 hl
theorem z_narz {x : Int} (hx : x = 0 ∨ x = 1) : vp_nar .boolean (z_i x) = z_i x := by rcases hx with rfl | rfl <;> decide +kernel
theorem g_zast {k : Nat} {i x : Int} (hd : decode μ.2.1 pc = .ok (.bastore, 1)) (hk : z_cl k = 22) (h0 : 0 ≤ i) (h1 : i < z_n k) (hx : x = 0 ∨ x = 1) (k9 : z_R μ fin (pc + 1) ls st (z_up I k i.toNat x)) : z_R μ fin pc ls (aI x :: aI i :: aR k :: st) I := by
  intro hC hL hS p l e Rm s m args below meth c Γ G H locs lsA hP hv hl
  have hi := z_hd (z_tl hS)
  refine va_zast G.1 G.2.1 G.2.2.2.2.2.2.2.2.1 hP (G.2.2.2.2.2.2.2.2.2.1.D I) hv k k (z_arr hk (by omega) (by omega)) (z_tya hk (by omega) (by unfold z_ty; rw [hk]; rfl)) (z_vp hi h0 h1) hd (fun H1 locs1 hP1 hD1 hS1 => ?_)
  rw [z_tn hi, z_narz hx, z_aset hk (by omega) (by omega)] at hP1
  exact k9 (z_upc hC (z_hd hS)) hL (z_tl (z_tl (z_tl hS))) p l e Rm s m args below meth c Γ G H1 locs1 lsA hP1 hS1 hl
def z_cp (I : z_M) (k0 k1 sp dp n : Nat) : z_M := z_row I k1 (va_cpy (I k0) (I k1) sp dp n)
theorem g_copy {ix k0 k1 : Nat} {sp dp n : Nat} (hd : decode μ.2.1 pc = .ok (.invokestatic ix, 3)) (hw : Cond.methodLink μ.1 ix arraycopyName ∈ z_W) (hw2 : Cond.native arraycopyName ∈ z_W) (hw3 : Cond.static arraycopyName ∈ z_W) (hw4 : Cond.initialized "java/lang/System" ∈ z_W) (hk0 : z_cl k0 = 20) (hk1 : z_cl k1 = 20) (h4 : sp + n ≤ z_n k0) (h5 : dp + n ≤ z_n k1) (hfr : 1 ≤ μ.2.2.2.2.1.frames) (hlo : (st.map (fun v => (z_cv (fun _ => 0) v).category)).sum + (nativeFrameWords "java/lang/System" "arraycopy" 5 + 11) ≤ μ.2.2.2.2.1.locals)
    (k9 : z_R μ fin (pc + 3) ls st (z_cp I k0 k1 sp dp n)) : z_R μ fin pc ls (aI (n : Int) :: aI (dp : Int) :: aR k1 :: aI (sp : Int) :: aR k0 :: st) I := by
  intro hC hL hS p l e Rm s m args below meth c Γ G H locs lsA hP hv hl
  have hn := z_hd hS
  have hdp := z_hd (z_tl hS)
  have hsp := z_hd (z_tl (z_tl (z_tl hS)))
  have en : (z_i (n : Int)).toNatClampNeg = n := by rw [z_tn hn]; rfl
  have edp : (z_i (dp : Int)).toNatClampNeg = dp := by rw [z_tn hdp]; rfl
  have esp : (z_i (sp : Int)).toNatClampNeg = sp := by rw [z_tn hsp]; rfl
  have pos : ∀ {x : Nat}, inI (x : Int) → ¬ z_i (x : Int) < 0 := by
    intro x hx q
    rw [← z_i0, z_ilt hx (by decide)] at q
    omega
  have hcat : (List.map (fun v => Value.category v) (st.map (z_cv (gad Γ)))).sum = (st.map (fun v => (z_cv (fun _ => 0) v).category)).sum := by
    rw [List.map_map]
    congr 1
    apply List.map_congr_left
    intro v _
    rcases v with x | x | x | x <;> rfl
  refine va_copyi (ty := .int) G.1 G.2.1 (by rw [G.2.2.2.1, hl.1]) G.2.2.2.2.1 (G.2.2.2.2.2.1 _ hw) (G.2.2.2.2.2.1 _ hw2) (G.2.2.2.2.2.1 _ hw3) (G.2.2.2.2.2.1 _ hw4) G.2.2.2.2.2.2.2.2.1 hP (G.2.2.2.2.2.2.2.2.2.1.D I) hv k0 k1 k0 k1 (z_arr hk0 (by omega) (by omega)) (z_arr hk1 (by omega) (by omega)) (z_tya hk0 (by omega) (by unfold z_ty; rw [hk0]; rfl)) (z_tya hk1 (by omega) (by unfold z_ty; rw [hk1]; rfl)) rfl (pos hsp) (pos hdp) (pos hn) (by rw [esp, en]; exact h4) (by rw [edp, en]; exact h5) (fun _ _ => rfl) (by rw [G.2.2.2.2.2.2.2.1]; exact hfr) (by rw [G.2.2.2.2.2.2.2.1, hcat]; exact hlo) hd (fun H1 locs1 hP1 hD1 hS1 => ?_)
  rw [esp, edp, en, z_ws_set (I' := z_cp I k0 k1 sp dp n) z_row_off (by
    rw [z_ent_a (by omega) (by omega)]
    congr 4
    funext b
    unfold z_cp z_row va_cpy
    rw [if_pos rfl]
    split <;> rfl)] at hP1
  refine k9 (z_rowc hC (fun j => ?_)) hL (z_tl (z_tl (z_tl (z_tl (z_tl hS))))) p l e Rm s m args below meth c Γ G H1 locs1 lsA hP1 hS1 hl
  unfold va_cpy
  split
  · exact (hC _ _).2 (z_lg_arr (by omega))
  · exact (hC _ _).2 (z_lg_arr (by omega))
end ZH
