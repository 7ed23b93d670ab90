/-! the law: its base, its rules -/
def R_law : String := "GonePipesLaw"
def lw_P (b : Addr) (xs : List Int32) (args : Array Value) (s : State) : Prop := args = #[.ref b] ∧ s.IntsAt b xs ∧ xs.length ≤ 384 ∧ (Jvm.Cond.and given_1 narrow_1).before args s = true
def lw_Q (_ : Array Value) (s : State) (o : Outcome) (t : State) : Prop := o = .returned (some (.int 1)) ∧ Framed s o t [] 74 2477
def lw_Z (below : List Frame) (a : Array Value) (s : State) : State → Prop := fun t => ∃ o, t.status = .running ∧ Ended t below o ∧ lw_Q a s o t
/-- the law's own end, with 1 on the stack, nothing written that was there before, its room as the claim has it -/
theorem lw_ret {p : Program} {l : Launch} {e : Env} {s : State} {m : MethodId} {below : List Frame} {meth : Method} {c : Code} {b : Nat} (hx : p.tables.exec = Jvm.exec) (hb : c.code = code) (hr : meth.sig.returnType = ret) (hlocks : meth.locks = false) {pc : Nat} {H : Heap} {ls : Array Slot} (hdg : decode code pc = .ok (.ireturn, 1)) : W p l e room_1 s m #[Value.ref b] below meth c H [] 74 2477 (lw_Z below #[Value.ref b] s) (F0 m pc ls [.int 1]) := by
  intro T hT X
  obtain ⟨fs, hret, hrun, hended, hW, hframe⟩ := X.leave (v := some (.int 1)) (hlocks := hlocks) (fun h => by rw [hr] at h; cases h)
  have hmeth' : T.vm.method? m = some meth := X.method'
  refine ⟨T.setFrames fs, ?_, .returned (some (.int 1)), hrun, hended, rfl, ⟨_, rfl⟩, hW, hframe⟩
  jvm_step X.here [X.here.top, hx, hb, hdg, hmeth', hr, ret, narrow_b1]
  (try refine ⟨rfl, ?_⟩); (try refine ⟨rfl, ?_⟩)
  first | (intro acts; rw [hret _ acts rfl rfl rfl]) | rw [hret _ _ rfl rfl rfl]
  exact Steps.refl _
/-- what holds at the law's entry: the machine, the code, the tables' words (any of lw_tbl by 'hts w (by decide +kernel)'), the script of L ints xs at the cell b, what the Statement gives of the start (any of its parts by flat_of_before) -/
def lw_At (p : Program) (s : State) (m : MethodId) (meth : Method) (c : Code) (b L : Nat) (xs : Nat → Int32) : Prop :=
  p.tables.exec = Jvm.exec ∧ c.code = code ∧ meth.sig.returnType = ret ∧ c.maxLocals = 4 ∧ s.vm.findClass R_law = some m.cls ∧ (∀ w ∈ lw_tbl, w.before #[Value.ref b] s = true) ∧ va_X b L xs s s.heap ∧ b < s.heap.size ∧ meth.locks = false ∧ (Jvm.Cond.and given_1 narrow_1).before #[Value.ref b] s = true
abbrev muL (n : Nat) (xs : Nat → Int) : z_Mt := (RL, cL_law, 4, some .boolean, room_1, (74, 2477), fun Γ U => va_X (gad Γ 200) n (fun j => z_i (xs j)) U U.heap ∧ gad Γ 200 < U.heap.size ∧ ¬ gA Γ (gad Γ 200) ∧ ∀ q, gA Γ q → U.heap.size ≤ q)
def finL : z_Fin := fun _ below args s => lw_Z below args s
section QS
variable {n : Nat} {xs : Nat → Int} {pc : Nat} {ls st : List z_V} {I : z_M}
theorem g_sld {i : Int} (hxs : ∀ j, inI (xs j)) (hd : decode cL_law pc = .ok (.iaload, 1)) (h0 : 0 ≤ i) (h1 : i < n) (k : z_R (muL n xs) finL (pc + 1) ls (aI (xs i.toNat) :: st) I) : z_R (muL n xs) finL pc ls (aI i :: aR 200 :: st) I := by
  intro hC hL hS p l e Rm s m args below meth c Γ G H locs lsA hP hv hl
  have hi := z_hd hS
  have E := G.2.2.2.2.2.2.2.2.2.2.2
  refine va_sld G.1 G.2.1 E.1 E.2.1 E.2.2.1 hv (z_vp hi h0 h1) hd ?_
  rw [z_tn hi]
  exact k hC hL (z_cons (hxs _) (z_tl (z_tl hS))) p l e Rm s m args below meth c Γ G H locs lsA hP hv hl
theorem g_slen (hn : n ≤ 384) (hd : decode cL_law pc = .ok (.arraylength, 1)) (k : z_R (muL n xs) finL (pc + 1) ls (aI (n : Int) :: st) I) : z_R (muL n xs) finL pc ls (aR 200 :: st) I := by
  intro hC hL hS p l e Rm s m args below meth c Γ G H locs lsA hP hv hl
  have E := G.2.2.2.2.2.2.2.2.2.2.2
  refine va_slen G.1 G.2.1 E.1 E.2.1 E.2.2.1 hv hd ?_
  rw [show Int32.ofNat n = z_i (n : Int) from (z_iN n).symm]
  exact k hC hL (z_cons (show inI (n : Int) by omega) (z_tl hS)) p l e Rm s m args below meth c Γ G H locs lsA hP hv hl
theorem lw_ret2 {p : Program} {l : Launch} {e : Env} {s : State} {m : MethodId} {below : List Frame} {meth : Method} {c : Code} {args : Array Value} (hx : p.tables.exec = Jvm.exec) (hb : c.code = code) (hr : meth.sig.returnType = ret) (hlocks : meth.locks = false) {pc : Nat} {H : Heap} {ls : Array Slot} (hdg : decode code pc = .ok (.ireturn, 1)) : W p l e room_1 s m args below meth c H [] 74 2477 (lw_Z below args s) (F0 m pc ls [.int 1]) := by
  intro T hT X
  obtain ⟨fs, hret, hrun, hended, hW, hframe⟩ := X.leave (v := some (.int 1)) (hlocks := hlocks) (fun h => by rw [hr] at h; cases h)
  have hmeth' : T.vm.method? m = some meth := X.method'
  refine ⟨T.setFrames fs, ?_, .returned (some (.int 1)), hrun, hended, rfl, ⟨_, rfl⟩, hW, hframe⟩
  jvm_step X.here [X.here.top, hx, hb, hdg, hmeth', hr, ret, narrow_b1]
  (try refine ⟨rfl, ?_⟩); (try refine ⟨rfl, ?_⟩)
  first | (intro acts; rw [hret _ acts rfl rfl rfl]) | rw [hret _ _ rfl rfl rfl]
  exact Steps.refl _
theorem g_lret (hd : decode cL_law pc = .ok (.ireturn, 1)) : z_R (muL n xs) finL pc ls [aI 1] I := by
  intro hC hL hS p l e Rm s m args below meth c Γ G H locs lsA hP hv hl
  have E := G.2.2.2.2.2.2.2.2.2.2.2
  obtain rfl : Rm = room_1 := G.2.2.2.2.2.2.2.1
  refine va_forget (fun q hq => E.2.2.2 _ (hv.2.2 q hq)) ?_
  have := lw_ret2 (p := p) (l := l) (e := e) (s := s) (m := m) (below := below) (meth := meth) (c := c) (args := args) (H := H) (ls := lsA) G.1 G.2.1 G.2.2.1 G.2.2.2.2.2.2.1 hd
  rw [show ([aI 1] : List z_V).map (z_cv (gad Γ)) = [.int 1] by show [Value.int (z_i 1)] = _; rw [show z_i 1 = 1 by decide +kernel]]
  exact this
end QS
