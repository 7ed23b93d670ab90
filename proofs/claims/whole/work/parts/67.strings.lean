/-! strings: the four words of the language, length and charAt -/
section QI
variable {μ : z_Mt} {fin : z_Fin} {pc : Nat} {ls st : List z_V} {I : z_M}
variable {y : MethodName} {cc : ByteArray} {nL : Nat} {ret : Option FieldType} {rm : Room} {As : List z_V} {Q : Option z_V → z_M → Prop} {n ix : Nat}
def z_ln (i : Nat) : Nat := [5, 5, 4, 4].getD i 0
def z_ch (i j : Nat) : Int := ((z_by.getD i []).getD j 0).toInt
theorem z_ch_r : ∀ i, i < 4 → ∀ j, j < z_ln i → 97 ≤ z_ch i j ∧ z_ch i j ≤ 122 := by decide +kernel
theorem z_ln_r : ∀ i, i < 4 → z_ln i ≤ 5 := by decide
theorem g_gsC (hd : decode μ.2.1 pc = .ok (.getstatic ix, 3)) (hw : Cond.fieldLink μ.1 ix "java/lang/String" "COMPACT_STRINGS" "Z" ∈ z_W) (k : z_R μ fin (pc + 3) ls (aI 1 :: st) I) : z_R μ fin pc ls st I := by
  intro hC hL hS p l e Rm s m args below meth c Γ G H locs lsA hP hv hl
  refine va_gets G.1 G.2.1 G.2.2.2.2.2.2.2.2.2.2.1.2.2.1 hv G.2.2.2.2.1 (G.2.2.2.2.2.1 _ hw) (fun _ h => h) hd ?_
  have := k hC hL (z_cons (show inI 1 by decide) hS) p l e Rm s m args below meth c Γ G H locs lsA hP hv hl
  rw [List.map_cons, show z_cv (gad Γ) (aI 1) = .int 1 by show Value.int (z_i 1) = _; rw [show z_i 1 = 1 by decide +kernel]] at this
  exact this
theorem g_gsF (hd : decode μ.2.1 pc = .ok (.getstatic ix, 3)) (hw : Cond.fieldLink μ.1 ix "jdk/internal/util/Preconditions" "SIOOBE_FORMATTER" "Ljava/util/function/BiFunction;" ∈ z_W) (k : ∀ a : z_V, a = aU ∨ a = aR 350 → z_R μ fin (pc + 3) ls (a :: st) I) : z_R μ fin pc ls st I := by
  intro hC hL hS p l e Rm s m args below meth c Γ G H locs lsA hP hv hl
  rcases G.2.2.2.2.2.2.2.2.2.2.1.2.2.2.1 with h | h
  · refine va_gets G.1 G.2.1 h hv G.2.2.2.2.1 (G.2.2.2.2.2.1 _ hw) (fun _ h => h) hd ?_
    exact k aU (Or.inl rfl) hC hL (z_cons trivial hS) p l e Rm s m args below meth c Γ G H locs lsA hP hv hl
  · refine va_gets G.1 G.2.1 h hv G.2.2.2.2.1 (G.2.2.2.2.2.1 _ hw) (fun _ h => h) hd ?_
    exact k (aR 350) (Or.inr rfl) hC hL (z_cons trivial hS) p l e Rm s m args below meth c Γ G H locs lsA hP hv hl
theorem g_getSc {i : Nat} (hi : i < 4) (hd : decode μ.2.1 pc = .ok (.getfield ix, 3)) (hw : Cond.fieldLink μ.1 ix "java/lang/String" "coder" "B" ∈ z_W) (k : z_R μ fin (pc + 3) ls (aI 0 :: st) I) : z_R μ fin pc ls (aR (300 + i) :: st) I := by
  intro hC hL hS p l e Rm s m args below meth c Γ G H locs lsA hP hv hl
  refine vk_getf G.1 G.2.1 (G.2.2.2.2.2.2.2.2.2.2.1.1.1 i hi).2.1 hv G.2.2.2.2.1 (G.2.2.2.2.2.1 _ hw) (fun _ h => h) hd ?_
  have := k hC hL (z_cons (show inI 0 by decide) (z_tl hS)) p l e Rm s m args below meth c Γ G H locs lsA hP hv hl
  rw [List.map_cons, show z_cv (gad Γ) (aI 0) = .int 0 by show Value.int (z_i 0) = _; rw [z_i0]] at this
  exact this
theorem g_getSv {i : Nat} (hi : i < 4) (hd : decode μ.2.1 pc = .ok (.getfield ix, 3)) (hw : Cond.fieldLink μ.1 ix "java/lang/String" "value" "[B" ∈ z_W) (k : z_R μ fin (pc + 3) ls (aR (400 + i) :: st) I) : z_R μ fin pc ls (aR (300 + i) :: st) I := by
  intro hC hL hS p l e Rm s m args below meth c Γ G H locs lsA hP hv hl
  refine vk_getf G.1 G.2.1 (G.2.2.2.2.2.2.2.2.2.2.1.1.1 i hi).2.2.1 hv G.2.2.2.2.1 (G.2.2.2.2.2.1 _ hw) (fun _ h => h) hd ?_
  exact k hC hL (z_cons trivial (z_tl hS)) p l e Rm s m args below meth c Γ G H locs lsA hP hv hl
theorem g_lenS {i : Nat} (hi : i < 4) (hd : decode μ.2.1 pc = .ok (.arraylength, 1)) (k : z_R μ fin (pc + 1) ls (aI (z_ln i : Nat) :: st) I) : z_R μ fin pc ls (aR (400 + i) :: st) I := by
  intro hC hL hS p l e Rm s m args below meth c Γ G H locs lsA hP hv hl
  have hr := z_ln_r i hi
  refine va_tlen G.1 G.2.1 (G.2.2.2.2.2.2.2.2.2.2.1.1.1 i hi).2.2.2 hv (v := z_i (z_ln i)) (z_iN (z_ln i)).symm hd ?_
  exact k hC hL (z_cons (show inI _ by omega) (z_tl hS)) p l e Rm s m args below meth c Γ G H locs lsA hP hv hl
theorem g_baldS {i : Nat} {j : Int} (hi : i < 4) (hd : decode μ.2.1 pc = .ok (.baload, 1)) (h0 : 0 ≤ j) (h1 : j < z_ln i) (k : z_R μ fin (pc + 1) ls (aI (z_ch i j.toNat) :: st) I) : z_R μ fin pc ls (aI j :: aR (400 + i) :: st) I := by
  intro hC hL hS p l e Rm s m args below meth c Γ G H locs lsA hP hv hl
  have hj := z_hd hS
  have hr := z_ch_r i hi j.toNat (by omega)
  refine va_tb G.1 G.2.1 (G.2.2.2.2.2.2.2.2.2.2.1.1.1 i hi).2.2.2 hv (z_vp hj h0 h1) (v := .int (z_i (z_ch i j.toNat))) ?_ hd ?_
  · rw [z_tn hj]
    show Value.int _ = Value.int (z_i ((z_by.getD i []).getD j.toNat 0).toInt)
    rw [show z_i ((z_by.getD i []).getD j.toNat 0).toInt = (z_by.getD i []).getD j.toNat 0 from Int32.ofInt_toInt _]
  · exact k hC hL (z_cons (show inI _ by omega) (z_tl (z_tl hS))) p l e Rm s m args below meth c Γ G H locs lsA hP hv hl
theorem g_i2c {x : Int} (hd : decode μ.2.1 pc = .ok (.i2c, 1)) (h0 : 0 ≤ x) (h1 : x < 65536) (k : z_R μ fin (pc + 1) ls (aI x :: st) I) : z_R μ fin pc ls (aI x :: st) I := by
  intro hC hL hS p l e Rm s m args below meth c Γ G H locs lsA hP hv hl
  have hx := z_hd hS
  exact lv_i2c G.1 G.2.1 hd (lg_i2c_word (by rw [z_iT hx]; exact h0) (by rw [z_iT hx]; exact h1)) (k hC hL hS p l e Rm s m args below meth c Γ G H locs lsA hP hv hl)
theorem g_nreturn {own : String} {ty : FieldType} {x : Int} (hd : decode cc pc = .ok (.ireturn, 1)) (hx : narrow ty (.int (z_i x)) = .int (z_i x)) (hq : Q (some (aI x)) I) : z_R (z_mt own cc nL (some ty) rm) (z_fin Q) pc ls [aI x] I := by
  intro hC hL hS p l e Rm s m args below meth c Γ G H locs lsA hP hv hl
  exact W.zret (v := z_i x) G.1 G.2.1 G.2.2.1 hx (fun t ht hW => ⟨⟨some (aI x), I, rfl, hq, hC, fun v h => by cases h; exact z_hd hS, by rw [ht]; exact hP⟩, hv.F ht⟩) hv.2.2 hd G.2.2.2.2.2.2.1
theorem g_ldcS {i : Nat} (hi : i < 4) (hown : μ.1 = "GonePipes$Text") (hix : ix = z_ix i) (hd : decode μ.2.1 pc = .ok (.ldc ix, 2)) (k : z_R μ fin (pc + 2) ls (aR (300 + i) :: st) I) : z_R μ fin pc ls st I := by
  intro hC hL hS p l e Rm s m args below meth c Γ G H locs lsA hP hv hl
  subst hix
  exact va_ldcS G.1 G.2.1 (by rw [← hown]; exact G.2.2.2.2.1) (G.2.2.2.2.2.2.2.2.2.2.1.2.1 i hi) hd (k hC hL (z_cons trivial hS) p l e Rm s m args below meth c Γ G H locs lsA hP hv hl)
theorem g_callVs {i : Nat} (hi : i < 4) (hd : decode μ.2.1 pc = .ok (.invokevirtual ix, 3)) (hy : z_callee μ y cc nL ret rm n) (hw1 : Cond.methodLink μ.1 ix y ∈ z_W) (hw2 : Cond.instanceMethod y ∈ z_W) (hw3 : Cond.selects RJ0 y y ∈ z_W) (hw4 : Cond.initialized RJ0 ∈ z_W) (hyC : y.cls = RJ0) (hn : As.length = n) (hst : z_sw st ≤ 8)
    (hM : z_C y cc nL ret rm (aR (300 + i) :: As) I Q) (k9 : ∀ r I', Q r I' → z_R μ fin (pc + 3) ls (r.toList ++ st) I') : z_R μ fin pc ls (As.reverse ++ aR (300 + i) :: st) I := by
  intro hC hL hS p l e Rm s m args below meth c Γ G H locs lsA hP hv hl
  obtain ⟨hA1, hS1⟩ := z_argsc hS
  have hRm := G.2.2.2.2.2.2.2.1
  refine z_go (Q := Q) (va_runV (C := RJ0) (b := gad Γ (300 + i)) (As := As.map (z_cv (gad Γ))) (rest := st.map (z_cv (gad Γ))) (nL := μ.2.2.1) ⟨G.1, G.2.1, G.2.2.2.1, G.2.2.2.2.1, G.2.2.2.2.2.1⟩ (hM hC hA1 l Γ G.2.2.2.2.2.2.2.2.2.1) (cwV n G.2.2.2.2.2.1 (z_GoodIn (fun w hw => ?_)) rfl hy.2.2.2.1 hy.2.2.2.2.1 ⟨hyC, hy.2.1⟩ (by rw [hRm]; exact hy.2.2.1)) ⟨z_blind, vk_recv (adK := fun i => gad Γ (300 + i)) (i := i) G.2.2.2.2.2.2.2.2.2.2.1.1 hi hv, fun U hU hW => ⟨rfl, by rw [hU]; exact hP, va_K.moved hW.alike G.2.2.2.2.2.2.2.2.1, G.2.2.2.2.2.2.2.2.2.2.1.go hW (fun a h1 h2 => by rw [hU]; exact hv.2.1 a h1 h2)⟩⟩ rfl (by simpa using hn) hl.1 (by simp [z_cv]) (by rw [z_swE]; simpa [JFrame.monitorRoom] using hst) hd ⟨by rw [hRm]; exact hy.2.2.2.2.2.1, by rw [hRm]; exact hy.2.2.2.2.2.2⟩) hv (fun r I' hQ hC' hr H1 locs1 hP1 hS2 => ?_)
  · unfold wsV at hw
    rcases List.mem_append.mp hw with h | h
    · simp only [List.mem_cons, List.not_mem_nil, or_false] at h
      rcases h with rfl | rfl | rfl | rfl
      · exact hw1
      · exact hw2
      · exact hw3
      · exact hw4
    · exact z_wsin hy.1 w h
  · rw [z_rmap]
    exact k9 r I' hQ hC' hL (z_ret hr hS1) p l e Rm s m args below meth c Γ G H1 locs1 lsA hP1 hS2 hl
end QI
