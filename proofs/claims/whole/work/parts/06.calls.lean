/-! CALLS AND ENDS -/
theorem z_blind {Γ : z_G} {av : List Value} {I : z_M} : FrameBlind (va_Pc av (z_B Γ I)) := fun a U g mk h =>
  ⟨h.1, h.2.1, va_K.moved (u := U) (U := U.calling g mk a) (Vm.Alike.refl U.vm) h.2.2.1, h.2.2.2.calling g mk a⟩
def z_sw (st : List z_V) : Nat := (st.map (fun v => (z_cv (fun _ => 0) v).category)).sum
theorem z_swE (ad : Nat → Nat) (st : List z_V) : (List.map (fun v => Value.category v) (st.map (z_cv ad))).sum = z_sw st := by
  unfold z_sw
  rw [List.map_map]
  congr 1
  apply List.map_congr_left
  intro v _
  rcases v with x | x | x | x <;> rfl
theorem z_go {Γ : z_G} {p : Program} {l : Launch} {e : Env} {Rm : Room} {s : State} {m : MethodId} {args : Array Value} {below : List Frame} {meth : Method} {c : Code} {H : Heap} {locs : List Loc} {cells slots : Nat} {QQ : State → Prop} {pc : Nat} {lsA : Array Slot} {rest st0 : List Value} {a : Array Value} {Q : Option z_V → z_M → Prop}
    (hr : va_Run p l e Rm s m args below meth c H locs cells slots 0 0 (F0 m pc lsA st0) rest (z_Q Γ Q a) (gA Γ)) (hS : va_S (gA Γ) s.heap H locs)
    (kk : ∀ (r : Option z_V) (I' : z_M), Q r I' → z_CI I' → (∀ v, r = some v → z_ca v) → ∀ (H1 : Heap) (locs1 : List Loc), va_P (gD Γ) vwCl (z_ws (gad Γ) (gcA Γ) I') H1 → va_S (gA Γ) s.heap H1 locs1 → W p l e Rm s m args below meth c H1 locs1 cells slots QQ (F0 m (pc + 3) lsA ((r.map (z_cv (gad Γ))).toList ++ rest))) : W p l e Rm s m args below meth c H locs cells slots QQ (F0 m pc lsA st0) := by
  intro T hT X
  obtain ⟨v, st₀, t, T', L, h0, X', hL, e1, e2, ⟨⟨r, I', hv, hQ, hC, hca, hP⟩, hz, hk⟩, st⟩ := hr T hT X
  cases hv
  rw [h0] at hz hk
  obtain ⟨t2, a1, b1⟩ := kk r I' hQ hC hca T'.heap (locs ++ L) (by rw [e1]; exact hP)
    ⟨Nat.le_trans hS.1 (by rw [e1]; exact hz), fun q h1 h2 => by rw [e1, hk q (Nat.lt_of_lt_of_le h1 hS.1) h2]; exact hS.2.1 q h1 h2, fun q hq => by
      rcases List.mem_append.mp hq with h | h
      · exact hS.2.2 q h
      · exact hL q h⟩ T' rfl X'
  exact ⟨t2, st t2 a1, b1⟩
/-- a callee's class, code and room, as a call wants them -/
abbrev z_callee (μ : z_Mt) (y : MethodName) (cc : ByteArray) (nL : Nat) (ret : Option FieldType) (rm : Room) (n : Nat) : Prop :=
  Cond.code y cc nL ret ∈ z_W ∧ (y.cls ≠ "java/lang/invoke/MethodHandle" ∧ y.cls ≠ "java/lang/invoke/VarHandle" ∧ (parseMethodDescriptor y.desc).map (fun d => d.parameters.length) = some n) ∧ (rm.frames + 1 ≤ μ.2.2.2.2.1.frames ∧ 8 + (nL + 11) + rm.locals ≤ μ.2.2.2.2.1.locals) ∧ rm.cells = 0 ∧ rm.slots = 0 ∧ μ.2.2.2.2.2.1.1 ≤ μ.2.2.2.2.1.cells ∧ μ.2.2.2.2.2.1.2 ≤ μ.2.2.2.2.1.slots
theorem z_wsin {y : MethodName} {cc : ByteArray} {nL : Nat} {ret : Option FieldType} (h : Cond.code y cc nL ret ∈ z_W) : ∀ w ∈ (Cond.code y cc nL ret :: z_W), w ∈ z_W := fun w hw => (List.mem_cons.mp hw).elim (fun e => e ▸ h) id
section ZC
variable {μ : z_Mt} {fin : z_Fin} {pc : Nat} {ls st : List z_V} {I : z_M}
variable {y : MethodName} {cc : ByteArray} {nL : Nat} {ret : Option FieldType} {rm : Room} {As : List z_V} {Q : Option z_V → z_M → Prop} {n ix b : Nat}
theorem z_argsc {b : Nat} (h : ∀ v ∈ As.reverse ++ aR b :: st, z_ca v) : (∀ v ∈ aR b :: As, z_ca v) ∧ ∀ v ∈ st, z_ca v :=
  ⟨fun v hv => (List.mem_cons.mp hv).elim (fun e => e ▸ trivial) (fun q => h v (List.mem_append_left _ (List.mem_reverse.mpr q))), fun v hv => h v (List.mem_append_right _ (List.mem_cons_of_mem _ hv))⟩
theorem z_ret {r : Option z_V} (h : ∀ v, r = some v → z_ca v) (hs : ∀ v ∈ st, z_ca v) : ∀ v ∈ r.toList ++ st, z_ca v := by
  cases r with
  | none => exact hs
  | some w => exact z_cons (h w rfl) hs
theorem z_rmap {ad : Nat → Nat} {r : Option z_V} : (r.map (z_cv ad)).toList ++ st.map (z_cv ad) = (r.toList ++ st).map (z_cv ad) := by cases r <;> rfl
theorem g_callV {C : String} {ci N : Nat} {T : u_T} (hd : decode μ.2.1 pc = .ok (.invokevirtual ix, 3)) (hy : z_callee μ y cc nL ret rm n) (hw1 : Cond.methodLink μ.1 ix y ∈ z_W) (hw2 : Cond.instanceMethod y ∈ z_W) (hw3 : Cond.selects C y y ∈ z_W) (hw4 : Cond.initialized C ∈ z_W) (hyC : y.cls = C) (hb : z_cl b = ci) (hci : ci < 12) (hvw : vwCl[ci]? = some (C, T, N)) (hn : As.length = n) (hst : z_sw st ≤ 8)
    (hM : z_C y cc nL ret rm (aR b :: As) I Q) (k9 : ∀ r I', Q r I' → z_R μ fin (pc + 3) ls (r.toList ++ st) I') : z_R μ fin pc ls (As.reverse ++ aR b :: st) I := by
  intro hC hL hS p l e Rm s m args below meth c Γ G H locs lsA hP hv hl
  obtain ⟨hA1, hS1⟩ := z_argsc hS
  have hRm := G.2.2.2.2.2.2.2.1
  refine z_go (Q := Q) (va_runV (C := C) (b := gad Γ b) (As := As.map (z_cv (gad Γ))) (rest := st.map (z_cv (gad Γ))) (nL := μ.2.2.1) ⟨G.1, G.2.1, G.2.2.2.1, G.2.2.2.2.1, G.2.2.2.2.2.1⟩ (hM hC hA1 l Γ G.2.2.2.2.2.2.2.2.2.1) (cwV n G.2.2.2.2.2.1 (z_GoodIn (fun w hw => ?_)) rfl hy.2.2.2.1 hy.2.2.2.2.1 ⟨hyC, hy.2.1⟩ (by rw [hRm]; exact hy.2.2.1)) ⟨z_blind, va_recv (ci := ci) (q0 := b) G.2.2.2.2.2.2.2.2.1 hP hvw (by rw [z_ws_get (z_lt hb (by omega)), z_ent_o (by omega), hb]), fun U hU hW => ⟨rfl, by rw [hU]; exact hP, va_K.moved hW.alike G.2.2.2.2.2.2.2.2.1, G.2.2.2.2.2.2.2.2.2.2.1.go hW (fun a h1 h2 => by rw [hU]; exact hv.2.1 a h1 h2)⟩⟩ rfl (by simpa using hn) hl.1 (by simp [z_cv]) (by rw [z_swE]; simpa [JFrame.monitorRoom] using hst) hd ⟨by rw [hRm]; exact hy.2.2.2.2.2.1, by rw [hRm]; exact hy.2.2.2.2.2.2⟩) hv (fun r I' hQ hC' hr H1 locs1 hP1 hS2 => ?_)
  · unfold wsV at hw
    rcases List.mem_append.mp hw with h | h
    · simp only [List.mem_cons, List.not_mem_nil, or_false] at h
      rcases h with rfl | rfl | rfl | rfl
      · exact hw1
      · exact hw2
      · exact hw3
      · exact hw4
    · exact z_wsin hy.1 w h
  · rw [z_rmap]
    exact k9 r I' hQ hC' hL (z_ret hr hS1) p l e Rm s m args below meth c Γ G H1 locs1 lsA hP1 hS2 hl
theorem g_callS (hd : decode μ.2.1 pc = .ok (.invokestatic ix, 3)) (hy : z_callee μ y cc nL ret rm n) (hw1 : Cond.methodLink μ.1 ix y ∈ z_W) (hw2 : Cond.static y ∈ z_W) (hw4 : Cond.initialized y.cls ∈ z_W) (hn : As.length = n) (hst : z_sw st ≤ 8)
    (hM : z_C y cc nL ret rm As I Q) (k9 : ∀ r I', Q r I' → z_R μ fin (pc + 3) ls (r.toList ++ st) I') : z_R μ fin pc ls (As.reverse ++ st) I := by
  intro hC hL hS p l e Rm s m args below meth c Γ G H locs lsA hP hv hl
  have hA1 : ∀ v ∈ As, z_ca v := fun v hv => hS v (List.mem_append_left _ (List.mem_reverse.mpr hv))
  have hS1 : ∀ v ∈ st, z_ca v := fun v hv => hS v (List.mem_append_right _ hv)
  have hRm := G.2.2.2.2.2.2.2.1
  refine z_go (Q := Q) (va_runS (As := As.map (z_cv (gad Γ))) (rest := st.map (z_cv (gad Γ))) (nL := μ.2.2.1) ⟨G.1, G.2.1, G.2.2.2.1, G.2.2.2.2.1, G.2.2.2.2.2.1⟩ (hM hC hA1 l Γ G.2.2.2.2.2.2.2.2.2.1) (va_cwS n G.2.2.2.2.2.1 (z_GoodIn (fun w hw => ?_)) rfl hy.2.2.2.1 hy.2.2.2.2.1 hy.2.1 (by rw [hRm]; exact hy.2.2.1)) ⟨z_blind, fun U hU hW => ⟨rfl, by rw [hU]; exact hP, va_K.moved hW.alike G.2.2.2.2.2.2.2.2.1, G.2.2.2.2.2.2.2.2.2.2.1.go hW (fun a h1 h2 => by rw [hU]; exact hv.2.1 a h1 h2)⟩⟩ rfl (by simpa using hn) hl.1 (by simp) (by rw [z_swE]; simpa [JFrame.monitorRoom] using hst) hd ⟨by rw [hRm]; exact hy.2.2.2.2.2.1, by rw [hRm]; exact hy.2.2.2.2.2.2⟩) hv (fun r I' hQ hC' hr H1 locs1 hP1 hS2 => ?_)
  · unfold va_wsS at hw
    rcases List.mem_append.mp hw with h | h
    · simp only [List.mem_cons, List.not_mem_nil, or_false] at h
      rcases h with rfl | rfl | rfl
      · exact hw1
      · exact hw2
      · exact hw4
    · exact z_wsin hy.1 w h
  · rw [z_rmap]
    exact k9 r I' hQ hC' hL (z_ret hr hS1) p l e Rm s m args below meth c Γ G H1 locs1 lsA hP1 hS2 hl
/-- a private static of the nest's host: hasNote, out of Organ -/
theorem g_callSN (hown : μ.1 = RX4) (hix : ix = 122) (hyy : y = yX10_hasNote) (hd : decode μ.2.1 pc = .ok (.invokestatic ix, 3)) (hy : z_callee μ y cc nL ret rm n) (hw2 : Cond.static y ∈ z_W) (hw4 : Cond.initialized y.cls ∈ z_W) (hn : As.length = n) (hst : z_sw st ≤ 8)
    (hM : z_C y cc nL ret rm As I Q) (k9 : ∀ r I', Q r I' → z_R μ fin (pc + 3) ls (r.toList ++ st) I') : z_R μ fin pc ls (As.reverse ++ st) I := by
  intro hC hL hS p l e Rm s m args below meth c Γ G H locs lsA hP hv hl
  have hA1 : ∀ v ∈ As, z_ca v := fun v hv => hS v (List.mem_append_left _ (List.mem_reverse.mpr hv))
  have hS1 : ∀ v ∈ st, z_ca v := fun v hv => hS v (List.mem_append_right _ hv)
  have hRm := G.2.2.2.2.2.2.2.1
  subst hix; subst hyy
  refine z_go (Q := Q) (va_runSN (host := "GonePipes") (As := As.map (z_cv (gad Γ))) (rest := st.map (z_cv (gad Γ))) (nL := μ.2.2.1) ⟨G.1, G.2.1, G.2.2.2.1, G.2.2.2.2.1, G.2.2.2.2.2.1⟩ (hM hC hA1 l Γ G.2.2.2.2.2.2.2.2.2.1) ⟨va_cnB n G.2.2.2.2.2.1 (z_GoodIn (z_wsin hy.1)) rfl hy.2.2.2.1 hy.2.2.2.2.1 (by rw [hown]; exact G.2.2.2.2.2.2.2.2.2.2.1.2.2.2.2) (G.2.2.2.2.2.1 _ hw4) hy.2.1 (by rw [hRm]; exact hy.2.2.1), G.2.2.2.2.2.1 _ hw2, trivial⟩ ⟨z_blind, fun U hU hW => ⟨rfl, by rw [hU]; exact hP, va_K.moved hW.alike G.2.2.2.2.2.2.2.2.1, G.2.2.2.2.2.2.2.2.2.2.1.go hW (fun a h1 h2 => by rw [hU]; exact hv.2.1 a h1 h2)⟩⟩ rfl (by simpa using hn) hl.1 (by simp) (by rw [z_swE]; simpa [JFrame.monitorRoom] using hst) hd ⟨by rw [hRm]; exact hy.2.2.2.2.2.1, by rw [hRm]; exact hy.2.2.2.2.2.2⟩) hv (fun r I' hQ hC' hr H1 locs1 hP1 hS2 => ?_)
  rw [z_rmap]
  exact k9 r I' hQ hC' hL (z_ret hr hS1) p l e Rm s m args below meth c Γ G H1 locs1 lsA hP1 hS2 hl
/-- dispatch: the reference names x, declared by owner; the receiver's class runs y -/
theorem g_callU {C owner : String} {x : MethodName} {ci N m0 : Nat} {T : u_T} {b0 : ByteArray} {r0 : Option FieldType} (hd : decode μ.2.1 pc = .ok (.invokevirtual ix, 3)) (hy : z_callee μ y cc nL ret rm n) (hw1 : Cond.methodLink μ.1 ix x ∈ z_W) (hw2 : Cond.sameMethod x.cls owner x.name x.desc ∈ z_W) (hw3 : Cond.instanceMethod ⟨owner, x.name, x.desc⟩ ∈ z_W) (hw4 : Cond.selects C x y ∈ z_W) (hw5 : Cond.instanceMethod y ∈ z_W) (hw6 : Cond.initialized y.cls ∈ z_W) (hw7 : Cond.code ⟨owner, x.name, x.desc⟩ b0 m0 r0 ∈ z_W) (hxd : owner ≠ "java/lang/invoke/MethodHandle" ∧ owner ≠ "java/lang/invoke/VarHandle" ∧ (parseMethodDescriptor x.desc).map (fun d => d.parameters.length) = some n) (hb : z_cl b = ci) (hci : ci < 12) (hvw : vwCl[ci]? = some (C, T, N)) (hn : As.length = n) (hst : z_sw st ≤ 8)
    (hM : z_C y cc nL ret rm (aR b :: As) I Q) (k9 : ∀ r I', Q r I' → z_R μ fin (pc + 3) ls (r.toList ++ st) I') : z_R μ fin pc ls (As.reverse ++ aR b :: st) I := by
  intro hC hL hS p l e Rm s m args below meth c Γ G H locs lsA hP hv hl
  obtain ⟨hA1, hS1⟩ := z_argsc hS
  have hRm := G.2.2.2.2.2.2.2.1
  refine z_go (Q := Q) (va_runU (C := C) (owner := owner) (x := x) (b := gad Γ b) (As := As.map (z_cv (gad Γ))) (rest := st.map (z_cv (gad Γ))) (nL := μ.2.2.1) ⟨G.1, G.2.1, G.2.2.2.1, G.2.2.2.2.1, G.2.2.2.2.2.1⟩ (hM hC hA1 l Γ G.2.2.2.2.2.2.2.2.2.1) (va_cwO n G.2.2.2.2.2.1 (z_GoodIn (fun w hw => ?_)) rfl hy.2.2.2.1 hy.2.2.2.2.1 hw7 hxd (by rw [hRm]; exact hy.2.2.1)) ⟨z_blind, va_recv (ci := ci) (q0 := b) G.2.2.2.2.2.2.2.2.1 hP hvw (by rw [z_ws_get (z_lt hb (by omega)), z_ent_o (by omega), hb]), fun U hU hW => ⟨rfl, by rw [hU]; exact hP, va_K.moved hW.alike G.2.2.2.2.2.2.2.2.1, G.2.2.2.2.2.2.2.2.2.2.1.go hW (fun a h1 h2 => by rw [hU]; exact hv.2.1 a h1 h2)⟩⟩ rfl (by simpa using hn) hl.1 (by simp [z_cv]) (by rw [z_swE]; simpa [JFrame.monitorRoom] using hst) hd ⟨by rw [hRm]; exact hy.2.2.2.2.2.1, by rw [hRm]; exact hy.2.2.2.2.2.2⟩) hv (fun r I' hQ hC' hr H1 locs1 hP1 hS2 => ?_)
  · unfold va_wsO at hw
    rcases List.mem_append.mp hw with h | h
    · simp only [List.mem_cons, List.not_mem_nil, or_false] at h
      rcases h with rfl | rfl | rfl | rfl | rfl | rfl
      · exact hw1
      · exact hw2
      · exact hw3
      · exact hw4
      · exact hw5
      · exact hw6
    · exact z_wsin hy.1 w h
  · rw [z_rmap]
    exact k9 r I' hQ hC' hL (z_ret hr hS1) p l e Rm s m args below meth c Γ G H1 locs1 lsA hP1 hS2 hl
/-- super.m(..): the superclass's own method -/
theorem g_callSU {C : String} {ci N : Nat} {T : u_T} (hd : decode μ.2.1 pc = .ok (.invokespecial ix, 3)) (hy : z_callee μ y cc nL ret rm n) (hw1 : Cond.methodLink μ.1 ix y ∈ z_W) (hw2 : Cond.sameMethod y.cls y.cls y.name y.desc ∈ z_W) (hw3 : Cond.superclass μ.1 y.cls ∈ z_W) (hw4 : Cond.instanceMethod y ∈ z_W) (hw5 : Cond.initialized y.cls ∈ z_W) (hno : y.name ≠ "<init>") (hb : z_cl b = ci) (hci : ci < 12) (hvw : vwCl[ci]? = some (C, T, N)) (hn : As.length = n) (hst : z_sw st ≤ 8)
    (hM : z_C y cc nL ret rm (aR b :: As) I Q) (k9 : ∀ r I', Q r I' → z_R μ fin (pc + 3) ls (r.toList ++ st) I') : z_R μ fin pc ls (As.reverse ++ aR b :: st) I := by
  intro hC hL hS p l e Rm s m args below meth c Γ G H locs lsA hP hv hl
  obtain ⟨hA1, hS1⟩ := z_argsc hS
  have hRm := G.2.2.2.2.2.2.2.1
  refine z_go (Q := Q) (va_runSU (C := C) (cC := (gD Γ).1 ci) (b := gad Γ b) (As := As.map (z_cv (gad Γ))) (rest := st.map (z_cv (gad Γ))) (nL := μ.2.2.1) (G.2.2.2.2.2.2.2.2.1.1 ci _ hvw).2 ⟨G.1, G.2.1, G.2.2.2.1, G.2.2.2.2.1, G.2.2.2.2.2.1⟩ (hM hC hA1 l Γ G.2.2.2.2.2.2.2.2.2.1) (va_cwSU n G.2.2.2.2.2.1 (z_GoodIn (fun w hw => ?_)) rfl hy.2.2.2.1 hy.2.2.2.2.1 ⟨hno, hy.2.1.2.2⟩ (by rw [hRm]; exact hy.2.2.1)) ⟨z_blind, va_recv (ci := ci) (q0 := b) G.2.2.2.2.2.2.2.2.1 hP hvw (by rw [z_ws_get (z_lt hb (by omega)), z_ent_o (by omega), hb]), fun U hU hW => ⟨rfl, by rw [hU]; exact hP, va_K.moved hW.alike G.2.2.2.2.2.2.2.2.1, G.2.2.2.2.2.2.2.2.2.2.1.go hW (fun a h1 h2 => by rw [hU]; exact hv.2.1 a h1 h2)⟩⟩ rfl (by simpa using hn) hl.1 (by simp [z_cv]) (by rw [z_swE]; simpa [JFrame.monitorRoom] using hst) hd ⟨by rw [hRm]; exact hy.2.2.2.2.2.1, by rw [hRm]; exact hy.2.2.2.2.2.2⟩) hv (fun r I' hQ hC' hr H1 locs1 hP1 hS2 => ?_)
  · unfold va_wsSU at hw
    rcases List.mem_append.mp hw with h | h
    · simp only [List.mem_cons, List.not_mem_nil, or_false] at h
      rcases h with rfl | rfl | rfl | rfl | rfl
      · exact hw1
      · exact hw2
      · exact hw3
      · exact hw4
      · exact hw5
    · exact z_wsin hy.1 w h
  · rw [z_rmap]
    exact k9 r I' hQ hC' hL (z_ret hr hS1) p l e Rm s m args below meth c Γ G H1 locs1 lsA hP1 hS2 hl
theorem z_callSI {p : Program} {l : Launch} {e : Env} {R : Room} {s : State} {m : MethodId} {args : Array Value} {below : List Frame} {meth : Method} {c : Code} {T : State} {locs : List Loc} {cells slots : Nat} (X : Stand p l e R s m args below meth c T locs cells slots) (hexec : p.tables.exec = Jvm.exec) {own : String} {index : Nat} {x y : MethodName} {bytes : ByteArray} {maxL : Nat} {ret : Option FieldType}
    (hown : s.vm.findClass own = some m.cls) (hlink : (Cond.methodLink own index x).before args s = true) (hsame : (Cond.sameMethod x.cls y.cls x.name x.desc).before args s = true) (hxy : y.name = x.name ∧ y.desc = x.desc) (hsup : (Cond.superclass own x.cls).before args s = true) (hsup2 : (Cond.superclass x.cls y.cls).before args s = true)
    (hinst : (Cond.instanceMethod y).before args s = true) (hcode : (Cond.code y bytes maxL ret).before args s = true) (hno : y.name ≠ "<init>")
    {W : Nat} {Pre : Pt → Array Value → Prop} {Post : Pt → Array Value → Option Value → Pt → Prop} (hK : Back l R p e below s args y 3 W Pre Post)
    {b : Addr} {cellB : Cell} {kB : Class} (hcell : T.heap[b]? = some cellB) (hobj : cellB.vm.isStatics = false) (hkB : s.vm.classes[cellB.cls]? = some kB)
    {g : JFrame} (hg : g.method = m) (hsize : g.locals.size = c.maxLocals) {argsL rest : List Value} (hlen : ∀ sig, parseMethodDescriptor y.desc = some sig → argsL.length = sig.parameters.length)
    (hstack : g.stack = argsL.reverse ++ .ref b :: rest) (hW : 2 * g.monitorRoom + (rest.map fun v => v.category).sum ≤ W) (hdg : decode c.code g.pc = .ok (.invokespecial index, 3))
    (hpre : ∀ vm₁, s.WarmedH vm₁ → Pre ⟨T.setVm vm₁, locs, cells, slots⟩ (Value.ref b :: argsL).toArray) :
    ∃ (v : Option Value) (vm₁ : Vm) (B : Pt), s.WarmedH vm₁ ∧ Stand p l e R s m args below meth c B.U B.locs B.cells B.slots ∧ Post ⟨T.setVm vm₁, locs, cells, slots⟩ (Value.ref b :: argsL).toArray v B ∧
      ∀ target, Steps p.tables e below (B.U.setTop { g with pc := g.pc + 3, stack := v.toList ++ rest }) target → Steps p.tables e below (T.setTop g) target := by
  obtain ⟨mk, methM, hnamed, hmethM, hstM, habM⟩ := Cond.instanceMethod_spec hinst
  obtain ⟨methM', cM, hmethM', -, -, -, -, -, -, hsigM⟩ := Cond.code_spec hnamed hcode
  cases hmethM.symm.trans hmethM'
  obtain ⟨ps, dk, kp, hps, hdk, hkp, hsuper, -, -, hnid⟩ := Cond.superclass_spec hown hsup
  obtain ⟨ps2, dk2, kp2, hps2, hdk2, hkp2, hsuper2, -, -, hnid2⟩ := Cond.superclass_spec hps hsup2
  have hn : s.methodNamed? ⟨y.cls, x.name, x.desc⟩ = some mk := by rw [← hxy.1, ← hxy.2]; exact hnamed
  have hpm : ps2 = mk.cls := Option.some.inj (hps2.symm.trans (findClass_of_methodNamed hnamed))
  have hsz : 0 < s.vm.classes.size := Nat.lt_of_le_of_lt (Nat.zero_le _) (Array.getElem?_eq_some_iff.mp hdk2).1
  obtain ⟨q, hq⟩ : ∃ q, s.vm.classes.size = q + 1 := ⟨s.vm.classes.size - 1, by omega⟩
  have hsub : s.vm.isSubclass ps mk.cls = true := by
    rw [← hpm]
    unfold Vm.isSubclass
    rw [hq]
    simp [Vm.isSubclassAux, hdk2, hsuper2]
  obtain ⟨vm₁, X₁, hstep₁⟩ := X.invokespecialUp hexec hown hlink hsame hn hmethM hstM habM (by rw [← hxy.1]; exact hno) hdk hnid hps hsuper hsub (a := b) (cell := cellB) hcell
    (fun z h => by rw [h] at hobj; cases hobj) hkB (g := g) hg (argsL := argsL) (rest := rest) (hlen _ hsigM) hstack hdg
  obtain ⟨v, B, X', hpost, hsteps⟩ := hK m meth c ⟨T.setVm vm₁, locs, cells, slots⟩ { g with stack := rest } (.invokespecial index) mk (Value.ref b :: argsL).toArray X₁ hg hsize hdg hW (X₁.named hnamed) (hpre vm₁ X₁.warmed)
  exact ⟨v, vm₁, B, X₁.warmed, X', hpost, fun target h => hstep₁ _ (by rw [doInvoke_state]; exact hsteps.trans h)⟩
/-- super.m(..) of the Bourdon: the reference names the Reed's, which the Plain declares -/
theorem g_callSI {C : String} {x : MethodName} {ci N : Nat} {T : u_T} (hd : decode μ.2.1 pc = .ok (.invokespecial ix, 3)) (hy : z_callee μ y cc nL ret rm n) (hw1 : Cond.methodLink μ.1 ix x ∈ z_W) (hw2 : Cond.sameMethod x.cls y.cls x.name x.desc ∈ z_W) (hxy : y.name = x.name ∧ y.desc = x.desc) (hw3 : Cond.superclass μ.1 x.cls ∈ z_W) (hw3' : Cond.superclass x.cls y.cls ∈ z_W) (hw4 : Cond.instanceMethod y ∈ z_W) (hw5 : Cond.initialized y.cls ∈ z_W) (hno : y.name ≠ "<init>") (hb : z_cl b = ci) (hci : ci < 12) (hvw : vwCl[ci]? = some (C, T, N)) (hn : As.length = n) (hst : z_sw st ≤ 8)
    (hM : z_C y cc nL ret rm (aR b :: As) I Q) (k9 : ∀ r I', Q r I' → z_R μ fin (pc + 3) ls (r.toList ++ st) I') : z_R μ fin pc ls (As.reverse ++ aR b :: st) I := by
  intro hC hL hS p l e Rm s m args below meth c Γ G H locs lsA hP hv hl
  obtain ⟨hA1, hS1⟩ := z_argsc hS
  have hRm := G.2.2.2.2.2.2.2.1
  have hts := G.2.2.2.2.2.1
  obtain ⟨hfc, kB0, hkB0, -⟩ := (G.2.2.2.2.2.2.2.2.1.1 ci _ hvw).2
  refine z_go (Q := Q) (a := (Value.ref (gad Γ b) :: As.map (z_cv (gad Γ))).toArray) (rest := st.map (z_cv (gad Γ))) ?_ hv (fun r I' hQ hC' hr H1 locs1 hP1 hS2 => ?_)
  · have hM1 := hM hC hA1 l Γ G.2.2.2.2.2.2.2.2.2.1
    have hK : Back l Rm p e below s args y 3 8 (PreOf Rm 0 0 (va_Pc ((aR b :: As).map (z_cv (gad Γ))) (z_B Γ I))) (PostOf (z_Q Γ Q) 0 0 (gA Γ)) := back_of (bytes := cc) (maxL := nL) (ret := ret) hM1 z_blind hy.2.2.2.1 hy.2.2.2.2.1 (by rw [hRm]; exact hy.2.2.1.1) (by rw [hRm]; exact hy.2.2.1.2) (pay_in hts (z_GoodIn (z_wsin hy.1))) List.mem_cons_self (fun a' U hW => word_at hW (Or.inl (by first | rfl | simp [Cond.onTables, Cond.keeps, Cond.steady])) (hts _ hw5))
    obtain ⟨cellB, hcB, hoB, hclB⟩ := va_recv (ci := ci) (q0 := b) G.2.2.2.2.2.2.2.2.1 hP hvw (by rw [z_ws_get (z_lt hb (by omega)), z_ent_o (by omega), hb])
    have hkB0 : s.vm.classes[cellB.cls]? = some kB0 := by rw [← Option.some.inj (hfc.symm.trans hclB)]; exact hkB0
    intro T0 hT X0
    obtain ⟨v, vm₁, ⟨U', l2, c2, s2⟩, hW₁, X', ⟨g', mk, t, L, e1, e2, hq, h1, hL2, h2, h3⟩, st9⟩ := z_callSI X0 G.1 (bytes := cc) (maxL := nL) (ret := ret) G.2.2.2.2.1 (hts _ hw1) (hts _ hw2) hxy (hts _ hw3) (hts _ hw3') (hts _ hw4) (hts _ hy.1) hno hK (by rw [hT]; exact hcB) hoB hkB0 (g := F0 m pc lsA ((As.reverse ++ aR b :: st).map (z_cv (gad Γ)))) rfl (hl.1.trans G.2.2.2.1.symm) (argsL := As.map (z_cv (gad Γ))) (rest := st.map (z_cv (gad Γ))) (fun sig h => by
        have h2 := hy.2.1.2.2
        rw [h] at h2
        rw [List.length_map, hn]
        exact (Option.some.inj h2).symm) (by simp [z_cv]) (by rw [z_swE]; simpa [JFrame.monitorRoom] using hst) (by rw [G.2.1]; exact hd)
      (fun vm₁ hW₁ => ⟨by rw [hRm]; exact hy.2.2.2.2.2.1, by rw [hRm]; exact hy.2.2.2.2.2.2, rfl, by
        show va_P _ _ _ (T0.setVm vm₁).heap
        rw [show (T0.setVm vm₁).heap = H from hT]; exact hP, va_K.moved hW₁.alike G.2.2.2.2.2.2.2.2.1, G.2.2.2.2.2.2.2.2.2.2.1.go hW₁ (fun a h1 h2 => by rw [show (T0.setVm vm₁).heap = H from hT]; exact hv.2.1 a h1 h2)⟩)
    dsimp only [Pt.U, Pt.locs, Pt.cells, Pt.slots] at X' e1 e2 h1 h2 h3 st9
    subst h1; subst h2; subst h3
    exact ⟨v, (T0.setVm vm₁).calling g' mk (Value.ref (gad Γ b) :: As.map (z_cv (gad Γ))).toArray, t, U', L, hT, X', hL2, e1, e2, hq, st9⟩
  · rw [z_rmap]
    exact k9 r I' hQ hC' hL (z_ret hr hS1) p l e Rm s m args below meth c Γ G H1 locs1 lsA hP1 hS2 hl
theorem g_ireturn {own : String} {x : Int} (hd : decode cc pc = .ok (.ireturn, 1)) (hq : Q (some (aI x)) I) : z_R (z_mt own cc nL (some .int) rm) (z_fin Q) pc ls [aI x] I := by
  intro hC hL hS p l e Rm s m args below meth c Γ G H locs lsA hP hv hl
  exact W.iret (v := z_i x) G.1 G.2.1 G.2.2.1 (fun t ht hW => ⟨⟨some (aI x), I, rfl, hq, hC, fun v h => by cases h; exact z_hd hS, by rw [ht]; exact hP⟩, hv.F ht⟩) hv.2.2 hd G.2.2.2.2.2.2.1
theorem z_narz2 {x : Int} (hx : x = 0 ∨ x = 1) : narrow .boolean (.int (z_i x)) = .int (z_i x) := by rcases hx with rfl | rfl <;> decide +kernel
theorem g_zreturn {own : String} {x : Int} (hd : decode cc pc = .ok (.ireturn, 1)) (hx : x = 0 ∨ x = 1) (hq : Q (some (aI x)) I) : z_R (z_mt own cc nL (some .boolean) rm) (z_fin Q) pc ls [aI x] I := by
  intro hC hL hS p l e Rm s m args below meth c Γ G H locs lsA hP hv hl
  exact W.zret (v := z_i x) G.1 G.2.1 G.2.2.1 (z_narz2 hx) (fun t ht hW => ⟨⟨some (aI x), I, rfl, hq, hC, fun v h => by cases h; exact z_hd hS, by rw [ht]; exact hP⟩, hv.F ht⟩) hv.2.2 hd G.2.2.2.2.2.2.1
theorem g_lreturn {own : String} {x : Int} (hd : decode cc pc = .ok (.lreturn, 1)) (hq : Q (some (aL x)) I) : z_R (z_mt own cc nL (some .long) rm) (z_fin Q) pc ls [aL x] I := by
  intro hC hL hS p l e Rm s m args below meth c Γ G H locs lsA hP hv hl
  exact W.lret (v := z_l x) G.1 G.2.1 G.2.2.1 (fun t ht hW => ⟨⟨some (aL x), I, rfl, hq, hC, fun v h => by cases h; exact z_hd hS, by rw [ht]; exact hP⟩, hv.F ht⟩) hv.2.2 hd G.2.2.2.2.2.2.1
theorem g_areturn {own E : String} {x : Nat} (hd : decode cc pc = .ok (.areturn, 1)) (hq : Q (some (aR x)) I) : z_R (z_mt own cc nL (some (.object E)) rm) (z_fin Q) pc ls [aR x] I := by
  intro hC hL hS p l e Rm s m args below meth c Γ G H locs lsA hP hv hl
  exact W.aret (v := .ref (gad Γ x)) G.1 G.2.1 G.2.2.1 (Or.inl ⟨E, rfl⟩) (Or.inr ⟨_, rfl⟩) (fun t ht hW => ⟨⟨some (aR x), I, rfl, hq, hC, fun v h => by cases h; exact trivial, by rw [ht]; exact hP⟩, hv.F ht⟩) hv.2.2 hd G.2.2.2.2.2.2.1
theorem g_return {own : String} (hd : decode cc pc = .ok (.return_, 1)) (hq : Q none I) : z_R (z_mt own cc nL none rm) (z_fin Q) pc ls [] I := by
  intro hC hL hS p l e Rm s m args below meth c Γ G H locs lsA hP hv hl
  exact W.vret G.1 G.2.1 G.2.2.1 (fun t ht hW => ⟨⟨none, I, rfl, hq, hC, fun v h => (by cases h), by rw [ht]; exact hP⟩, hv.F ht⟩) hv.2.2 hd G.2.2.2.2.2.2.1
theorem g_mabs {x : Int} (hd : decode μ.2.1 pc = .ok (.invokestatic ix, 3)) (hw1 : Cond.methodLink μ.1 ix Lib.Math.abs.name ∈ z_W) (hw2 : Cond.static Lib.Math.abs.name ∈ z_W) (hw3 : Cond.initialized "java/lang/Math" ∈ z_W) (hw4 : Cond.code Lib.Math.abs.name Lib.Math.abs.code 1 (some .int) ∈ z_W) (hfr : 1 ≤ μ.2.2.2.2.1.frames) (hlo : z_sw st + 13 ≤ μ.2.2.2.2.1.locals) (hcs : μ.2.2.2.2.2.1.1 ≤ μ.2.2.2.2.1.cells ∧ μ.2.2.2.2.2.1.2 ≤ μ.2.2.2.2.1.slots) (hr : inI (if 0 ≤ x then x else -x)) (k : z_R μ fin (pc + 3) ls (aI (if 0 ≤ x then x else -x) :: st) I) : z_R μ fin pc ls (aI x :: st) I := by
  intro hC hL hS p l e Rm s m args below meth c Γ G H locs lsA hP hv hl
  have hRm := G.2.2.2.2.2.2.2.1
  have hx := z_hd hS
  refine va_mabs G.1 G.2.1 (by rw [G.2.2.2.1, hl.1]) G.2.2.2.2.1 (G.2.2.2.2.2.1 _ hw1) (G.2.2.2.2.2.1 _ hw2) (G.2.2.2.2.2.1 _ hw3) (G.2.2.2.2.2.1 _ hw4) (by rw [hRm]; exact hfr) (by rw [hRm, z_swE]; exact hlo) (by rw [hRm]; exact hcs.1) (by rw [hRm]; exact hcs.2) hd ?_
  have e1 : (if 0 ≤ z_i x then z_i x else 0 - z_i x) = z_i (if 0 ≤ x then x else -x) := by
    rw [← z_i0]
    by_cases h : 0 ≤ x
    · rw [if_pos ((z_ile (by decide) hx).mpr h), if_pos h]
    · rw [if_neg (fun q => h ((z_ile (by decide) hx).mp q)), if_neg h, z_isub]
      congr 1
      omega
  rw [e1]
  exact k hC hL (z_cons hr (z_tl hS)) p l e Rm s m args below meth c Γ G H locs lsA hP hv hl
theorem g_mmax {x w : Int} (hd : decode μ.2.1 pc = .ok (.invokestatic ix, 3)) (hw1 : Cond.methodLink μ.1 ix Lib.Math.max.name ∈ z_W) (hw2 : Cond.static Lib.Math.max.name ∈ z_W) (hw3 : Cond.initialized "java/lang/Math" ∈ z_W) (hw4 : Cond.code Lib.Math.max.name Lib.Math.max.code 2 (some .int) ∈ z_W) (hfr : 1 ≤ μ.2.2.2.2.1.frames) (hlo : z_sw st + 13 ≤ μ.2.2.2.2.1.locals) (hcs : μ.2.2.2.2.2.1.1 ≤ μ.2.2.2.2.1.cells ∧ μ.2.2.2.2.2.1.2 ≤ μ.2.2.2.2.1.slots) (k : z_R μ fin (pc + 3) ls (aI (if x < w then w else x) :: st) I) : z_R μ fin pc ls (aI w :: aI x :: st) I := by
  intro hC hL hS p l e Rm s m args below meth c Γ G H locs lsA hP hv hl
  have hRm := G.2.2.2.2.2.2.2.1
  have hw := z_hd hS
  have hx := z_hd (z_tl hS)
  refine va_mmax G.1 G.2.1 (by rw [G.2.2.2.1, hl.1]) G.2.2.2.2.1 (G.2.2.2.2.2.1 _ hw1) (G.2.2.2.2.2.1 _ hw2) (G.2.2.2.2.2.1 _ hw3) (G.2.2.2.2.2.1 _ hw4) (by rw [hRm]; exact hfr) (by rw [hRm, z_swE]; exact hlo) (by rw [hRm]; exact hcs.1) (by rw [hRm]; exact hcs.2) hd ?_
  have e1 : (if z_i x < z_i w then z_i w else z_i x) = z_i (if x < w then w else x) := by
    by_cases h : x < w
    · rw [if_pos ((z_ilt hx hw).mpr h), if_pos h]
    · rw [if_neg (fun q => h ((z_ilt hx hw).mp q)), if_neg h]
  rw [e1]
  refine k hC hL (z_cons ?_ (z_tl (z_tl hS))) p l e Rm s m args below meth c Γ G H locs lsA hP hv hl
  show inI _
  split
  · exact hw
  · exact hx
theorem g_mmin {x w : Int} (hd : decode μ.2.1 pc = .ok (.invokestatic ix, 3)) (hw1 : Cond.methodLink μ.1 ix Lib.Math.min.name ∈ z_W) (hw2 : Cond.static Lib.Math.min.name ∈ z_W) (hw3 : Cond.initialized "java/lang/Math" ∈ z_W) (hw4 : Cond.code Lib.Math.min.name Lib.Math.min.code 2 (some .int) ∈ z_W) (hfr : 1 ≤ μ.2.2.2.2.1.frames) (hlo : z_sw st + 13 ≤ μ.2.2.2.2.1.locals) (hcs : μ.2.2.2.2.2.1.1 ≤ μ.2.2.2.2.1.cells ∧ μ.2.2.2.2.2.1.2 ≤ μ.2.2.2.2.1.slots) (k : z_R μ fin (pc + 3) ls (aI (if w < x then w else x) :: st) I) : z_R μ fin pc ls (aI w :: aI x :: st) I := by
  intro hC hL hS p l e Rm s m args below meth c Γ G H locs lsA hP hv hl
  have hRm := G.2.2.2.2.2.2.2.1
  have hw := z_hd hS
  have hx := z_hd (z_tl hS)
  refine va_mmin G.1 G.2.1 (by rw [G.2.2.2.1, hl.1]) G.2.2.2.2.1 (G.2.2.2.2.2.1 _ hw1) (G.2.2.2.2.2.1 _ hw2) (G.2.2.2.2.2.1 _ hw3) (G.2.2.2.2.2.1 _ hw4) (by rw [hRm]; exact hfr) (by rw [hRm, z_swE]; exact hlo) (by rw [hRm]; exact hcs.1) (by rw [hRm]; exact hcs.2) hd ?_
  have e1 : (if z_i w < z_i x then z_i w else z_i x) = z_i (if w < x then w else x) := by
    by_cases h : w < x
    · rw [if_pos ((z_ilt hw hx).mpr h), if_pos h]
    · rw [if_neg (fun q => h ((z_ilt hw hx).mp q)), if_neg h]
  rw [e1]
  refine k hC hL (z_cons ?_ (z_tl (z_tl hS))) p l e Rm s m args below meth c Γ G H locs lsA hP hv hl
  show inI _
  split
  · exact hw
  · exact hx
/-- forgetting locals -/
theorem g_weak {ls' : List z_V} (h : ∀ (i : Nat) (v : z_V), ls'[i]? = some v → v ≠ aU → ls[i]? = some v) (k : z_R μ fin pc ls' st I) : z_R μ fin pc ls st I := by
  intro hC hL hS p l e Rm s m args below meth c Γ G H locs lsA hP hv hl
  refine k hC (fun v hv => ?_) hS p l e Rm s m args below meth c Γ G H locs lsA hP hv ⟨hl.1, hl.2.1, fun i v hi hv => hl.2.2 i v (h i v hi hv) hv⟩
  obtain ⟨i, hi⟩ := List.getElem?_of_mem hv
  by_cases hU : v = aU
  · subst hU; exact trivial
  · exact hL v (List.mem_of_getElem? (h i v hi hU))
/-- what is on top, or listed, is in range -/
theorem g_range {x : Int} (k : inI x → z_R μ fin pc ls (aI x :: st) I) : z_R μ fin pc ls (aI x :: st) I := fun hC hL hS => k (z_hd hS) hC hL hS
theorem g_mem (k : z_CI I → z_R μ fin pc ls st I) : z_R μ fin pc ls st I := fun hC hL hS => k hC hC hL hS
theorem g_loc {i : Nat} {x : Int} (h : ls[i]? = some (aI x)) (k : inI x → z_R μ fin pc ls st I) : z_R μ fin pc ls st I := fun hC hL hS => k (z_atc hL h) hC hL hS
end ZC
/-- contracts: more may be said -/
theorem z_C.args {y : MethodName} {cc : ByteArray} {nL : Nat} {ret : Option FieldType} {rm : Room} {As : List z_V} {I : z_M} {Q : Option z_V → z_M → Prop} (k : z_CI I → (∀ v ∈ As, z_ca v) → z_C y cc nL ret rm As I Q) : z_C y cc nL ret rm As I Q := fun hC hA => k hC hA hC hA
