/-! PHASE 1: the making of objects; a layer for constructors: the world is a list of cells, this at its head -/
abbrev kS : Type := Nat → ClassId
def T5 (c : kS) : List (ClassId × FieldType) := [(c 0, .int), (c 1, .byte), (c 2, .boolean), (c 3, .object RX6), (c 4, .object RX4)]
def kNest : List (String × Nat × MethodName) := [(RX10, 11, yX6_init), (RX10, 14, yX7_init), (RX10, 17, yX1_init), (RX10, 20, yX0_init), (RX10, 23, yX2_init), (RX10, 26, yX3_init), (RX10, 33, yX4_init), (RX10, 51, yX8_init), (RX10, 58, yX9_init), (RX7, 1, yX6_init), (RX1, 1, yX6_init), (RX0, 1, yX7_init), (RX2, 1, yX6_init), (RX3, 1, yX1_init), (RX4, 38, yX5_init)]
def kCast : List String := [RX7, RX1, RX0, RX2, RX3]
def kF (U : State) : Prop := va_AO RX6 U ∧ va_AO RX4 U ∧ (∀ C ∈ kCast, va_Nw (.castable C RX6) U) ∧ ∀ q ∈ kNest, va_Nw (.methodLinkNest q.1 q.2.1 q.2.2 "GonePipes") U
theorem kF.go {s U : State} (h : kF s) (hW : s.WarmedH U.vm) : kF U := ⟨h.1.moved hW.alike, h.2.1.moved hW.alike, fun C hC => (h.2.2.1 C hC).warmC hW, fun q hq => (h.2.2.2 q hq).warmM hW⟩
theorem kF.calling {U : State} (h : kF U) (g : JFrame) (mk : MethodId) (a : Array Value) : kF (U.calling g mk a) := ⟨h.1.moved (Vm.Alike.refl U.vm), h.2.1.moved (Vm.Alike.refl U.vm), fun C hC => (h.2.2.1 C hC).same rfl rfl, fun q hq => (h.2.2.2 q hq).same rfl rfl⟩
abbrev kMt : Type := String × ByteArray × Room
def kG (μ : kMt) (c : kS) (p : Program) (Rm : Room) (s : State) (m : MethodId) (args : Array Value) (meth : Method) (cd : Code) (D : va_G) (A : Nat → Prop) : Prop :=
  p.tables.exec = Jvm.exec ∧ cd.code = μ.2.1 ∧ meth.sig.returnType = none ∧ cd.maxLocals = 1 ∧ s.vm.findClass μ.1 = some m.cls ∧ (∀ w ∈ z_W, w.before args s = true) ∧ meth.locks = false ∧ Rm = μ.2.2 ∧ va_K D vwCl (T5 c) s ∧ (∀ q : Nat, s.heap.size ≤ q → A q) ∧ meth.name = "<init>" ∧ kF s
def kfin (c : kS) (Wf : (Nat → Nat) → va_W) (N1 N2 : Nat) (D : va_G) (A : Nat → Prop) (below : List Frame) (args : Array Value) (s : State) : State → Prop := MQ below (va_Qv (fun _ : Nat → Nat => True) (fun u t => va_P D vwCl (Wf u) t.heap ∧ va_K D vwCl (T5 c) t ∧ va_D A (Wf u)) A) args s N1 N2 A
def kR (μ : kMt) (c : kS) (h : Nat) (Wf : (Nat → Nat) → va_W) (N1 N2 : Nat) (pc : Nat) (ws : va_W) (st : List Value) (n1 n2 : Nat) : Prop :=
  ∀ (p : Program) (l : Launch) (e : Env) (Rm : Room) (s : State) (m : MethodId) (args : Array Value) (below : List Frame) (meth : Method) (cd : Code) (D : va_G) (A : Nat → Prop), kG μ c p Rm s m args meth cd D A → ∀ (H : Heap) (locs : List Loc) (ls : Array Slot), va_P D vwCl ws H → va_D A ws → va_S A s.heap H locs → lv_has ls 1 [(0, .ref h)] → W p l e Rm s m args below meth cd H locs n1 n2 (kfin c Wf N1 N2 D A below args s) (F0 m pc ls st)
/-- a constructor's contract: this alone at its beginning, all that it makes at its end -/
def kC (y : MethodName) (cc : ByteArray) (rm : Room) (c : kS) (ci : Nat) (fs0 : List Value) (h : Nat) (Wf : (Nat → Nat) → va_W) (N1 N2 : Nat) : Prop :=
  ∀ (l : Launch) (D : va_G) (sz : Nat), Met l y (.code y cc 1 none :: z_W) rm (va_Pc [.ref h] (fun U => U.heap.size = sz ∧ va_P D vwCl [(h, .inr (ci, fs0))] U.heap ∧ va_K D vwCl (T5 c) U ∧ va_D (fun _ => True) [(h, .inr (ci, fs0))] ∧ kF U)) (va_Qv (fun _ : Nat → Nat => True) (fun u t => va_P D vwCl (Wf u) t.heap ∧ va_K D vwCl (T5 c) t ∧ va_D (va_A [(h, .inr (ci, fs0))] sz) (Wf u)) (va_A [(h, .inr (ci, fs0))] sz)) N1 N2 (va_A [(h, .inr (ci, fs0))] sz)
theorem k_blind {av : List Value} {D : va_G} {c : kS} {w : va_W} {sz : Nat} : FrameBlind (va_Pc av (fun U => U.heap.size = sz ∧ va_P D vwCl w U.heap ∧ va_K D vwCl (T5 c) U ∧ va_D (fun _ => True) w ∧ kF U)) := fun a U g mk h =>
  ⟨h.1, h.2.1, h.2.2.1, va_K.moved (u := U) (U := U.calling g mk a) (Vm.Alike.refl U.vm) h.2.2.2.1, h.2.2.2.2.1, h.2.2.2.2.2.calling g mk a⟩
theorem k_intro {y : MethodName} {cc : ByteArray} {rm : Room} {c : kS} {ci : Nat} {fs0 : List Value} {h : Nat} {Wf : (Nat → Nat) → va_W} {N1 N2 : Nat} (hy : plainName y.cls = true) (hin : y.name = "<init>") (k : kR (y.cls, cc, rm) c h Wf N1 N2 0 [(h, .inr (ci, fs0))] [] 0 0) : kC y cc rm c ci fs0 h Wf N1 N2 := by
  intro l D sz
  refine Met.ofW (cc := cc) (maxL := 1) (ret := none) hy rfl ?_
  intro p e s m args below meth cd s₁ B hml hv
  obtain ⟨rfl, hsz, hP, hK, hD0, hF⟩ := hv
  have hts := atoms_spec (ws := .code y cc 1 none :: z_W) B.pre
  have hin2 : meth.name = "<init>" := (name_of_methodNamed B.named B.method).1.trans hin
  subst hsz
  have hD := hD0.self (sz := s.heap.size)
  have hl := lv_entry ([.ref h]) (n := 1) (Nat.le_of_ble_eq_true rfl)
  rw [lg_entry_eq]
  generalize (lg_sl ([.ref h]) ++ List.replicate (1 - (lg_sl ([.ref h])).length) Slot.unset).toArray = ls at hl ⊢
  exact k p l e rm s m _ below meth cd D _ ⟨B.exec, B.bytes, B.returns, hml, findClass_of_methodNamed B.named, fun w hw => hts w (List.mem_cons_of_mem _ hw), B.notSynchronized, rfl, hK, fun q hq => Or.inr hq, hin2, hF⟩ s.heap [] ls hP hD va_S.rf hl
section QT
variable {μ : kMt} {c : kS} {h : Nat} {Wf : (Nat → Nat) → va_W} {N1 N2 pc : Nat} {ws : va_W} {st : List Value} {n1 n2 ix : Nat}
theorem k_al (hd : decode μ.2.1 pc = .ok (.aload_n 0, 1)) (k : kR μ c h Wf N1 N2 (pc + 1) ws (.ref h :: st) n1 n2) : kR μ c h Wf N1 N2 pc ws st n1 n2 := by
  intro p l e Rm s m args below meth cd D A G H locs ls hP hD hS hl
  exact lv_aload_n G.1 G.2.1 hd rfl (lv_at hl 0 rfl) (k p l e Rm s m args below meth cd D A G H locs ls hP hD hS hl)
theorem k_obj (hd : decode μ.2.1 pc = .ok (.invokespecial ix, 3)) (hw : Cond.methodLink μ.1 ix objectInit ∈ z_W) (hfr : 1 ≤ μ.2.2.frames) (hlo : 12 ≤ μ.2.2.locals) (k : kR μ c h Wf N1 N2 (pc + 3) ws [] n1 n2) : kR μ c h Wf N1 N2 pc ws [.ref h] n1 n2 := by
  intro p l e Rm s m args below meth cd D A G H locs ls hP hD hS hl
  have hRm := G.2.2.2.2.2.2.2.1
  refine W.objInit G.1 G.2.1 G.2.2.2.2.1 (G.2.2.2.2.2.1 _ hw) (G.2.2.2.2.2.1 _ m_1_10) (G.2.2.2.2.2.1 _ m_1_11) rfl (by rw [G.2.2.2.1]; exact hl.1) rfl hd (by rw [hRm]; exact hfr) (by rw [hRm]; exact hlo) ?_
  refine W.eq (g2 := F0 m (pc + 3) ls []) rfl ?_
  exact k p l e Rm s m args below meth cd D A G H locs ls hP hD hS hl
theorem k_ic {n : Int} {v : Int32} (hd : decode μ.2.1 pc = .ok (.iconst n, 1)) (hv : Int32.ofInt n = v) (k : kR μ c h Wf N1 N2 (pc + 1) ws (.int v :: st) n1 n2) : kR μ c h Wf N1 N2 pc ws st n1 n2 := by
  intro p l e Rm s m args below meth cd D A G H locs ls hP hD hS hl
  exact lv_iconst G.1 G.2.1 hd hv (k p l e Rm s m args below meth cd D A G H locs ls hP hD hS hl)
theorem k_bi {n : Int} {v : Int32} (hd : decode μ.2.1 pc = .ok (.bipush n, 2)) (hv : (Int8.ofInt n).toInt32 = v) (k : kR μ c h Wf N1 N2 (pc + 2) ws (.int v :: st) n1 n2) : kR μ c h Wf N1 N2 pc ws st n1 n2 := by
  intro p l e Rm s m args below meth cd D A G H locs ls hP hD hS hl
  exact lv_bipush G.1 G.2.1 hd hv (k p l e Rm s m args below meth cd D A G H locs ls hP hD hS hl)
theorem k_si {n : Int} {v : Int32} (hd : decode μ.2.1 pc = .ok (.sipush n, 3)) (hv : (Int16.ofInt n).toInt32 = v) (k : kR μ c h Wf N1 N2 (pc + 3) ws (.int v :: st) n1 n2) : kR μ c h Wf N1 N2 pc ws st n1 n2 := by
  intro p l e Rm s m args below meth cd D A G H locs ls hP hD hS hl
  exact lv_sipush G.1 G.2.1 hd hv (k p l e Rm s m args below meth cd D A G H locs ls hP hD hS hl)
theorem k_lc {n : Fin 2} {v : Int64} (hd : decode μ.2.1 pc = .ok (.lconst n, 1)) (hv : Int64.ofNat (n : Nat) = v) (k : kR μ c h Wf N1 N2 (pc + 1) ws (.long v :: st) n1 n2) : kR μ c h Wf N1 N2 pc ws st n1 n2 := by
  intro p l e Rm s m args below meth cd D A G H locs ls hP hD hS hl
  exact lv_lconst G.1 G.2.1 hd hv (k p l e Rm s m args below meth cd D A G H locs ls hP hD hS hl)
theorem k_dup {a : Nat} (hd : decode μ.2.1 pc = .ok (.dup, 1)) (k : kR μ c h Wf N1 N2 (pc + 1) ws (.ref a :: .ref a :: st) n1 n2) : kR μ c h Wf N1 N2 pc ws (.ref a :: st) n1 n2 := by
  intro p l e Rm s m args below meth cd D A G H locs ls hP hD hS hl
  exact lv_dup G.1 G.2.1 hd rfl (k p l e Rm s m args below meth cd D A G H locs ls hP hD hS hl)
theorem k_K {D : va_G} {s : State} {cA : ClassId} {ty : FieldType} {t : Nat} {X : String} (hK : va_K D vwCl (T5 c) s) (hK1 : va_K D vwCl (T5 c ++ [(cA, ty)]) s) (ht : (T5 c)[t]? = some (c t, ty)) (hx : ∀ (U : State) (cB : ClassId), va_RA U cB ty → U.vm.findClass X = some cB) : cA = c t := by
  have h1 := (hK1.2 5 (cA, ty) (by rw [List.getElem?_append_right (Nat.le_refl 5)]; rfl)).2
  have h2 := (hK.2 t _ ht).2
  exact Option.some.inj ((hx _ _ h1).symm.trans (hx _ _ h2))
theorem k_newa {atype : ArrayType} {ty : FieldType} {t N : Nat} {n : Int32} {X : String} (hd : decode μ.2.1 pc = .ok (.newarray atype, 2)) (hty : newarray.typeOf atype = ty) (hw : Cond.arrayClass (newarray.typeOf atype) ∈ z_W) (ht : ∀ c : kS, (T5 c)[t]? = some (c t, ty)) (hx : ∀ (U : State) (cB : ClassId), va_RA U cB ty → U.vm.findClass X = some cB) (ha : ∀ cA : ClassId, vp_cell cA (N, .inl (fun _ => (0 : Int32))) = arrV cA N (fun _ => defaultValue ty)) (hn : ¬ n < 0) (hN : n.toNatClampNeg = N) (hb : N * componentBytes ty ≤ 536870912) (hc : n1 + 1 ≤ μ.2.2.cells) (hs : n2 + N ≤ μ.2.2.slots) (k : ∀ q : Nat, kR μ c h Wf N1 N2 (pc + 2) (ws ++ [(q, .inl (c t, N, .inl (fun _ => 0)))]) (.ref q :: st) (n1 + 1) (n2 + N)) : kR μ c h Wf N1 N2 pc ws (.int n :: st) n1 n2 := by
  intro p l e Rm s m args below meth cd D A G H locs ls hP hD hS hl
  have hRm := G.2.2.2.2.2.2.2.1
  refine va_newa (a0 := (N, .inl (fun _ => (0 : Int32)))) G.1 G.2.1 (G.2.2.2.2.2.1 _ hw) hty G.2.2.2.2.2.2.2.2.1 hP hD hS G.2.2.2.2.2.2.2.2.2.1 ha hn hN hb (by rw [hRm]; exact hc) (by rw [hRm]; exact hs) hd (fun q cA H1 hK1 hP1 hD1 hS1 => ?_)
  obtain rfl : cA = c t := k_K G.2.2.2.2.2.2.2.2.1 hK1 (ht c) hx
  exact k q p l e Rm s m args below meth cd D A G H1 locs ls hP1 hD1 hS1 hl
theorem k_newq {C : String} {t N : Nat} {n : Int32} (hd : decode μ.2.1 pc = .ok (.anewarray ix, 3)) (hw : Cond.classLink μ.1 ix C ∈ z_W) (hF : ∀ U, kF U → va_AO C U) (ht : ∀ c : kS, (T5 c)[t]? = some (c t, .object C)) (hn : ¬ n < 0) (hN : n.toNatClampNeg = N) (hb : N * 4 ≤ 536870912) (hc : n1 + 1 ≤ μ.2.2.cells) (hs : n2 + N ≤ μ.2.2.slots) (k : ∀ q : Nat, kR μ c h Wf N1 N2 (pc + 3) (ws ++ [(q, .inl (c t, N, .inr (.inr (.inr (.inr (fun _ => none))))))]) (.ref q :: st) (n1 + 1) (n2 + N)) : kR μ c h Wf N1 N2 pc ws (.int n :: st) n1 n2 := by
  intro p l e Rm s m args below meth cd D A G H locs ls hP hD hS hl
  have hRm := G.2.2.2.2.2.2.2.1
  refine va_newq G.1 G.2.1 G.2.2.2.2.1 (G.2.2.2.2.2.1 _ hw) (hF _ G.2.2.2.2.2.2.2.2.2.2.2) G.2.2.2.2.2.2.2.2.1 hP hD hS G.2.2.2.2.2.2.2.2.2.1 hn hN hb (by rw [hRm]; exact hc) (by rw [hRm]; exact hs) hd (fun q cA H1 hK1 hP1 hD1 hS1 => ?_)
  obtain rfl : cA = c t := k_K (X := "[" ++ (FieldType.object C).toString) G.2.2.2.2.2.2.2.2.1 hK1 (ht c) (fun U cB hr => by
    obtain ⟨kA, comp, -, -, -, h4⟩ := hr
    exact h4)
  exact k q p l e Rm s m args below meth cd D A G H1 locs ls hP1 hD1 hS1 hl
theorem k_new {C : String} {T : u_T} {N ci : Nat} {fs : List Value} {ty : Nat → FieldType} (hd : decode μ.2.1 pc = .ok (.new ix, 3)) (hvw : vwCl[ci]? = some (C, T, N)) (hin : ∀ w ∈ u_ws C T N, w ∈ wsL_law) (hty : ∀ k, k < N → parseFieldDescriptor (T k).2.2.1 = some (ty k)) (hcl : Cond.classLink μ.1 ix C ∈ z_W) (hinst : Cond.instantiable C N ∈ z_W) (hini : Cond.initialized C ∈ z_W) (hfs : ∀ j, j < N → defaultValue (ty j) = vp_V fs j) (hc : n1 + 1 ≤ μ.2.2.cells) (hs : n2 + N ≤ μ.2.2.slots) (k : ∀ q : Nat, kR μ c h Wf N1 N2 (pc + 3) (ws ++ [(q, .inr (ci, fs))]) (.ref q :: st) (n1 + 1) (n2 + N)) : kR μ c h Wf N1 N2 pc ws st n1 n2 := by
  intro p l e Rm s m args below meth cd D A G H locs ls hP hD hS hl
  have hRm := G.2.2.2.2.2.2.2.1
  have hW := G.2.2.2.2.2.1
  refine va_new (ci := ci) (fs := fs) G.1 G.2.1 hW (fun w hw => z_WL (hin w hw)) ty hty G.2.2.2.2.1 (hW _ hcl) (hW _ hinst) (hW _ hini) G.2.2.2.2.2.2.2.2.1 hP hD hS G.2.2.2.2.2.2.2.2.2.1 hvw hfs (by rw [hRm]; exact hc) (by rw [hRm]; exact hs) hd (fun q H1 hP1 hD1 hS1 => ?_)
  exact k q p l e Rm s m args below meth cd D A G H1 locs ls hP1 hD1 hS1 hl
theorem k_put {C : String} {T : u_T} {N ci j : Nat} {fs : List Value} {ty0 : Nat → FieldType} {ty : FieldType} {v : Value} (hd : decode μ.2.1 pc = .ok (.putfield ix, 3)) (hvw : vwCl[ci]? = some (C, T, N)) (hin : ∀ w ∈ u_ws C T N, w ∈ wsL_law) (hty : ∀ k, k < N → parseFieldDescriptor (T k).2.2.1 = some (ty0 k)) (hnm : ∀ a, a < N → ∀ b, b < N → a ≠ b → (T a).2.1 ≠ (T b).2.1) (he : ws[0]? = some (h, .inr (ci, fs))) (hj : j < N) (hw : Cond.fieldLink μ.1 ix (T j).1 (T j).2.1 (T j).2.2.1 ∈ z_W) (hfin : (T j).2.2.2 = false) (hty1 : parseFieldDescriptor (T j).2.2.1 = some ty) (hna : narrow ty v = v) (hfi : fits ty v = true) (hl9 : j < fs.length) (k : kR μ c h Wf N1 N2 (pc + 3) (ws.set 0 (h, .inr (ci, fs.set j v))) st n1 n2) : kR μ c h Wf N1 N2 pc ws (v :: .ref h :: st) n1 n2 := by
  intro p l e Rm s m args below meth cd D A G H locs ls hP hD hS hl
  refine va_put (ci := ci) (fs := fs) G.1 G.2.1 G.2.2.2.2.2.1 (fun w hw => z_WL (hin w hw)) ty0 hty hnm G.2.2.2.2.1 G.2.2.2.2.2.2.2.2.1 hP hD hS 0 he hvw j hj (G.2.2.2.2.2.1 _ hw) (fun _ h => h) hfin hty1 hna hfi hl9 hd (fun H1 locs1 hP1 hD1 hS1 => ?_)
  exact k p l e Rm s m args below meth cd D A G H1 locs1 ls hP1 hD1 hS1 hl
theorem k_putF {C : String} {T : u_T} {N ci j : Nat} {fs : List Value} {ty0 : Nat → FieldType} {ty : FieldType} {v : Value} (hd : decode μ.2.1 pc = .ok (.putfield ix, 3)) (hvw : vwCl[ci]? = some (C, T, N)) (hin : ∀ w ∈ u_ws C T N, w ∈ wsL_law) (hty : ∀ k, k < N → parseFieldDescriptor (T k).2.2.1 = some (ty0 k)) (hnm : ∀ a, a < N → ∀ b, b < N → a ≠ b → (T a).2.1 ≠ (T b).2.1) (he : ws[0]? = some (h, .inr (ci, fs))) (hj : j < N) (hw : Cond.fieldLink μ.1 ix (T j).1 (T j).2.1 (T j).2.2.1 ∈ z_W) (hfin : (T j).2.2.2 = true) (hdecl : (T j).1 = μ.1) (hty1 : parseFieldDescriptor (T j).2.2.1 = some ty) (hna : narrow ty v = v) (hfi : fits ty v = true) (hl9 : j < fs.length) (k : kR μ c h Wf N1 N2 (pc + 3) (ws.set 0 (h, .inr (ci, fs.set j v))) st n1 n2) : kR μ c h Wf N1 N2 pc ws (v :: .ref h :: st) n1 n2 := by
  intro p l e Rm s m args below meth cd D A G H locs ls hP hD hS hl
  refine va_putF (ci := ci) (fs := fs) G.1 G.2.1 G.2.2.2.2.2.1 (fun w hw => z_WL (hin w hw)) ty0 hty hnm G.2.2.2.2.1 G.2.2.2.2.2.2.2.2.1 hP hD hS 0 he hvw j hj (G.2.2.2.2.2.1 _ hw) (fun _ h => h) hfin G.2.2.2.2.2.2.2.2.2.2.1 hdecl hty1 hna hfi hl9 hd (fun H1 locs1 hP1 hD1 hS1 => ?_)
  exact k p l e Rm s m args below meth cd D A G H1 locs1 ls hP1 hD1 hS1 hl
theorem k_ast {r : vw_C} {E : String} {ci q0 qk t v a N : Nat} {vs : List Value} {f : Nat → Option Nat} {i : Int32} (hd : decode μ.2.1 pc = .ok (.aastore, 1)) (ha : ws[q0]? = some (a, .inl (c t, N, .inr (.inr (.inr (.inr f)))))) (ht : ∀ c : kS, (T5 c)[t]? = some (c t, .object E)) (hv : ws[qk]? = some (v, .inr (ci, vs))) (hc : vwCl[ci]? = some r) (hca : r.1 = E ∨ E = RX6 ∧ r.1 ∈ kCast) (hin : vp_in i N) {j : Nat} (hj : i.toNatClampNeg = j) (k : kR μ c h Wf N1 N2 (pc + 1) (ws.set q0 (a, .inl (c t, N, .inr (.inr (.inr (.inr (va_up f j (some v)))))))) st n1 n2) : kR μ c h Wf N1 N2 pc ws (.ref v :: .int i :: .ref a :: st) n1 n2 := by
  intro p l e Rm s m args below meth cd D A G H locs ls hP hD hS hl
  subst hj
  rcases hca with rfl | ⟨rfl, hca⟩
  · refine va_astq G.1 G.2.1 G.2.2.2.2.2.2.2.2.1 hP hD hS q0 t qk ci ha (ht c) hv hc hin hd (fun H1 locs1 hP1 hD1 hS1 => ?_)
    exact k p l e Rm s m args below meth cd D A G H1 locs1 ls hP1 hD1 hS1 hl
  · refine va_astqO G.1 G.2.1 G.2.2.2.2.2.2.2.2.1 hP hD hS q0 t qk ci ha (ht c) (G.2.2.2.2.2.2.2.2.2.2.2.2.2.1 _ hca) hv hc hin hd (fun H1 locs1 hP1 hD1 hS1 => ?_)
    exact k p l e Rm s m args below meth cd D A G H1 locs1 ls hP1 hD1 hS1 hl
theorem k_eq {ws' : va_W} (e : ws = ws') (k : kR μ c h Wf N1 N2 pc ws' st n1 n2) : kR μ c h Wf N1 N2 pc ws st n1 n2 := by
  subst e
  exact k
theorem nd_of : ∀ l : List Nat, l.Nodup → va_nd l = true
  | [], _ => rfl
  | a :: l, h => by
    rw [List.nodup_cons] at h
    rw [va_nd, nd_of l h.2, decide_eq_true h.1]
    rfl
theorem rg_map {wr w1 : va_W} : (List.range wr.length).map (fun i => (wr ++ w1)[i]?) = wr.map some := by
  apply List.ext_getElem?
  intro i
  rw [List.getElem?_map, List.getElem?_map]
  by_cases hi : i < wr.length
  · rw [List.getElem?_range hi, List.getElem?_eq_getElem hi]
    show some ((wr ++ w1)[i]?) = some (some wr[i])
    rw [List.getElem?_append_left hi, List.getElem?_eq_getElem hi]
  · rw [List.getElem?_eq_none_iff.mpr (by simpa using hi), List.getElem?_eq_none_iff.mpr (by omega)]
    rfl
/-- behind a constructor's call: the caller's cells, and what the constructor made -/
theorem k_join {A : Nat → Prop} {D : va_G} {wr w1 : va_W} {q : Nat} {e : va_E} {H H1 : Heap} (hP : va_P D vwCl (wr ++ [(q, e)]) H) (hD : va_D A (wr ++ [(q, e)])) (hk : ∀ x : Nat, x < H.size → ¬ va_A [(q, e)] H.size x → H1[x]? = H[x]?) (hF : ∀ x, va_A [(q, e)] H.size x → A x) (hP1 : va_P D vwCl w1 H1) (hD1 : va_D (va_A [(q, e)] H.size) w1) : va_P D vwCl (wr ++ w1) H1 ∧ va_D A (wr ++ w1) :=
  va_join (wr := wr) (w1 := w1) (wc := [(q, e)]) hP hD [wr.length] (List.range wr.length) (by simp) rg_map (nd_of _ List.nodup_range) (fun i hi => by
    have := List.mem_range.1 hi
    simp
    omega) hk hF hP1 hD1
theorem k_init {y : MethodName} {cc : ByteArray} {rm : Room} {ci M1 M2 q : Nat} {fs0 : List Value} {Wg : (Nat → Nat) → va_W} {wr : va_W} (hd : decode μ.2.1 pc = .ok (.invokespecial ix, 3)) (hC : kC y cc rm c ci fs0 q Wg M1 M2) (hw : Cond.code y cc 1 none ∈ z_W) (hini : Cond.initialized y.cls ∈ z_W) (hnl : (μ.1, ix, y) ∈ kNest) (hinm : Cond.instanceMethod y ∈ z_W) (hy1 : y.name = "<init>") (hpd : y.cls ≠ "java/lang/invoke/MethodHandle" ∧ y.cls ≠ "java/lang/invoke/VarHandle" ∧ (parseMethodDescriptor y.desc).map (fun d => d.parameters.length) = some 0) (hR : rm.frames + 1 ≤ μ.2.2.frames ∧ 8 + (1 + 11) + rm.locals ≤ μ.2.2.locals) (hrc : rm.cells = M1) (hrs : rm.slots = M2) (hc : n1 + M1 ≤ μ.2.2.cells ∧ n2 + M2 ≤ μ.2.2.slots) (hst : (st.map (fun v => v.category)).sum ≤ 8) (k : ∀ u, kR μ c h Wf N1 N2 (pc + 3) (wr ++ Wg u) st (n1 + M1) (n2 + M2)) : kR μ c h Wf N1 N2 pc (wr ++ [(q, .inr (ci, fs0))]) (.ref q :: st) n1 n2 := by
  intro p l e Rm s m args below meth cd D A G H locs ls hP hD hS hl
  have hRm := G.2.2.2.2.2.2.2.1
  have hW := G.2.2.2.2.2.1
  have hPc : va_P D vwCl [(q, .inr (ci, fs0))] H := hP.sub [wr.length] (by simp)
  have hDc : va_D A [(q, .inr (ci, fs0))] := hD.sub [wr.length] rfl (by simp)
  have hFc := va_free (wc := [(q, .inr (ci, fs0))]) hD hS G.2.2.2.2.2.2.2.2.2.1 [wr.length] (by simp)
  refine va_callv (va_runIN (host := "GonePipes") (As := []) (rest := st) (nL := 1) ⟨G.1, G.2.1, G.2.2.2.1, G.2.2.2.2.1, hW⟩ (hC l D H.size) ⟨va_cnB 0 hW (z_GoodIn (z_wsin hw)) rfl hrc hrs (G.2.2.2.2.2.2.2.2.2.2.2.2.2.2 _ hnl) (hW _ hini) hpd (by rw [hRm]; exact hR), hy1, hW _ hinm⟩ ⟨k_blind, fun U hU hW1 => ⟨rfl, by rw [hU], by rw [hU]; exact hPc, va_K.moved hW1.alike G.2.2.2.2.2.2.2.2.1, hDc.weaken (fun _ _ _ _ => trivial), G.2.2.2.2.2.2.2.2.2.2.2.go hW1⟩⟩ rfl rfl hl.1 rfl (by simpa [JFrame.monitorRoom] using hst) hd ⟨by rw [hRm]; exact hc.1, by rw [hRm]; exact hc.2⟩) hS (fun q _ h => hFc q h) hFc (fun u t H1 locs1 ht hvm hw1 hB hz1 hk1 hS1 => ?_)
  obtain ⟨hP1, hK1, hD1⟩ := hB
  rw [ht] at hP1
  obtain ⟨hP2, hD2⟩ := k_join hP hD hk1 hFc hP1 hD1
  exact k u p l e Rm s m args below meth cd D A G H1 locs1 ls hP2 hD2 hS1 hl
theorem k_ret (hd : decode μ.2.1 pc = .ok (.return_, 1)) (u : Nat → Nat) (hw : ws = Wf u) : kR μ c h Wf N1 N2 pc ws [] N1 N2 := by
  intro p l e Rm s m args below meth cd D A G H locs ls hP hD hS hl
  subst hw
  exact W.vret G.1 G.2.1 G.2.2.1 (fun t ht hW => ⟨⟨u, rfl, trivial, by rw [ht]; exact hP, va_K.moved hW.alike G.2.2.2.2.2.2.2.2.1, hD⟩, hS.F ht⟩) hS.2.2 hd G.2.2.2.2.2.2.1
end QT
