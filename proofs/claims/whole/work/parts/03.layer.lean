/-! the shape of the heap: 74 cells; a cell's sort: 0..11 an object of that class (its fields), 20 an int array (its length), 21 bytes, 22 booleans, 23 Organs, 24 Plains -/
def z_org : List (Nat × Nat) := [(4, 13), (20, 25), (20, 8), (20, 8), (20, 8), (20, 8), (20, 3), (20, 24), (20, 24), (5, 3), (20, 136)]
def z_sh : List (Nat × Nat) := [(10, 13), (24, 6), (6, 0), (7, 0), (1, 0), (0, 0), (2, 0), (3, 0)] ++ (z_org ++ (z_org ++ ((23, 2) :: (z_org ++ (z_org ++ [(22, 2), (8, 7), (21, 150), (20, 5), (9, 3), (20, 160), (20, 6), (11, 23), (20, 249), (20, 498), (22, 2), (20, 3), (20, 8), (20, 8), (20, 8), (20, 5), (20, 5), (20, 6), (20, 150), (20, 113), (20, 5)])))))
def z_cl (k : Nat) : Nat := (z_sh.getD k (99, 0)).1
def z_n (k : Nat) : Nat := (z_sh.getD k (99, 0)).2
/-- a class's fields: 0 int, 1 long, 2 a reference -/
def z_fts : List (List Nat) := [[], [], [], [], [0, 0, 0, 0, 2, 2, 2, 2, 2, 2, 2, 2, 2], [0, 0, 2], [], [], [0, 2, 2, 0, 0, 0, 0], [0, 0, 2], [2, 2, 2, 2, 2, 2, 2, 2, 1, 1, 0, 0, 0], [2, 2, 2, 2, 1, 1, 0, 2, 2, 2, 2, 2, 0, 0, 2, 2, 0, 0, 0, 0, 0, 2, 2]]
def z_ft (c j : Nat) : Nat := (z_fts.getD c []).getD j 2
/-- where a reference points: it never changes -/
def z_rf (k j : Nat) : Nat :=
  if z_cl k = 4 then k + (j - 3) else if z_cl k = 5 then k + 1 else if z_cl k = 8 then k + j else if z_cl k = 9 then k + 1
  else if z_cl k = 10 then [1, 8, 19, 30, 53, 54, 57, 59].getD j 0
  else if z_cl k = 11 then [61, 62, 63, 64, 0, 0, 0, 65, 66, 67, 68, 69, 0, 0, 70, 71, 0, 0, 0, 0, 0, 72, 73].getD j 0
  else if z_cl k = 23 then [31, 42].getD j 0 else 2 + j
def z_fv (ad : Nat → Nat) (I : z_M) (k j t : Nat) : Value := if t = 0 then .int (z_i (I k j)) else if t = 1 then .long (z_l (I k j)) else .ref (ad (z_rf k j))
def z_fs (ad : Nat → Nat) (I : z_M) (k : Nat) : List Value := (List.range (z_n k)).map (fun j => z_fv ad I k j (z_ft (z_cl k) j))
def z_ent (ad : Nat → Nat) (cA : Nat → ClassId) (I : z_M) (k : Nat) : va_E :=
  if z_cl k < 12 then .inr (z_cl k, z_fs ad I k) else if z_cl k < 23 then .inl (cA k, (z_n k, .inl (fun j => z_i (I k j)))) else .inl (cA k, (z_n k, .inr (.inr (.inr (.inr (fun j => some (ad (z_rf k j))))))))
def z_ws (ad : Nat → Nat) (cA : Nat → ClassId) (I : z_M) : va_W := (List.range 74).map (fun k => (ad k, z_ent ad cA I k))
theorem z_ws_get {ad : Nat → Nat} {cA : Nat → ClassId} {I : z_M} {k : Nat} (hk : k < 74) : (z_ws ad cA I)[k]? = some (ad k, z_ent ad cA I k) := by simp [z_ws, hk]
theorem z_ws_at {ad : Nat → Nat} {cA : Nat → ClassId} {I : z_M} {k : Nat} {q : Nat × va_E} (h : (z_ws ad cA I)[k]? = some q) : k < 74 ∧ q = (ad k, z_ent ad cA I k) := by
  have hk : k < 74 := by
    have := (List.getElem?_eq_some_iff.mp h).1
    simpa [z_ws] using this
  rw [z_ws_get hk] at h
  exact ⟨hk, (Option.some.inj h).symm⟩
def z_row (I : z_M) (k : Nat) (f : Nat → Int) : z_M := fun a b => if a = k then f b else I a b
theorem z_ent_congr {ad : Nat → Nat} {cA : Nat → ClassId} {I I' : z_M} {k : Nat} (h : ∀ j, I k j = I' k j) : z_ent ad cA I k = z_ent ad cA I' k := by
  unfold z_ent z_fs z_fv
  simp only [h]
theorem z_ws_set {ad : Nat → Nat} {cA : Nat → ClassId} {I I' : z_M} {k : Nat} {e : va_E} (h : ∀ a, a ≠ k → ∀ b, I' a b = I a b) (he : e = z_ent ad cA I' k) : (z_ws ad cA I).set k (ad k, e) = z_ws ad cA I' := by
  apply List.ext_getElem?
  intro i
  rw [List.getElem?_set]
  by_cases hi : k = i
  · subst hi
    rw [if_pos rfl]
    by_cases hk : k < 74
    · rw [z_ws_get hk, if_pos (by simpa [z_ws] using hk), he]
    · rw [if_neg (by simpa [z_ws] using hk)]
      symm
      rw [List.getElem?_eq_none_iff]
      simp [z_ws]
      omega
  · rw [if_neg hi]
    by_cases hk : i < 74
    · rw [z_ws_get hk, z_ws_get hk, z_ent_congr (fun j => (h i (fun q => hi q.symm) j).symm)]
    · rw [List.getElem?_eq_none_iff.mpr (by simp [z_ws]; omega), List.getElem?_eq_none_iff.mpr (by simp [z_ws]; omega)]
def z_ty (k : Nat) : FieldType := if z_cl k = 21 then .byte else if z_cl k = 22 then .boolean else if z_cl k = 23 then .object "GonePipes$Organ" else if z_cl k = 24 then .object "GonePipes$Plain" else .int
def z_tys (cA : Nat → ClassId) : List (ClassId × FieldType) := (List.range 74).map (fun k => (cA k, z_ty k))
theorem z_tys_get {cA : Nat → ClassId} {k : Nat} (hk : k < 74) : (z_tys cA)[k]? = some (cA k, z_ty k) := by simp [z_tys, hk]
def z_lg (k j : Nat) : Bool := decide (z_cl k < 12) && decide (z_ft (z_cl k) j = 1)
/-- what memory holds is in range -/
def z_CI (I : z_M) : Prop := ∀ k j, inL (I k j) ∧ (z_lg k j = false → inI (I k j))
abbrev z_G : Type := va_G × (Nat → Nat) × (Nat → ClassId) × (Nat → Prop) × (Nat × (Nat → Int)) × (Nat → Nat)
abbrev gD (Γ : z_G) : va_G := Γ.1
abbrev gad (Γ : z_G) : Nat → Nat := Γ.2.1
abbrev gcA (Γ : z_G) : Nat → ClassId := Γ.2.2.1
abbrev gA (Γ : z_G) : Nat → Prop := Γ.2.2.2.1
abbrev gL (Γ : z_G) : Nat := Γ.2.2.2.2.1.1
abbrev gxs (Γ : z_G) : Nat → Int := Γ.2.2.2.2.1.2
abbrev gaV (Γ : z_G) : Nat → Nat := fun i => gad Γ (400 + i)
def z_ok (Γ : z_G) : Prop := (∀ i j, i < 74 → j < 74 → gad Γ i = gad Γ j → i = j) ∧ (∀ k, k < 74 → gA Γ (gad Γ k))
theorem z_ok.D {Γ : z_G} (h : z_ok Γ) (I : z_M) : va_D (gA Γ) (z_ws (gad Γ) (gcA Γ) I) := by
  refine ⟨fun i j p q hi hj hpq => ?_, fun k q hk => ?_⟩
  · obtain ⟨hi1, rfl⟩ := z_ws_at hi
    obtain ⟨hj1, rfl⟩ := z_ws_at hj
    exact h.1 i j hi1 hj1 hpq
  · obtain ⟨hk1, rfl⟩ := z_ws_at hk
    exact h.2 k hk1
def z_tx (i : Nat) : String := ["organ", "place", "pipe", "hymn"].getD i ""
def z_ix (i : Nat) : Nat := [34, 54, 62, 70].getD i 0
def z_by : List (List Int32) := [[111, 114, 103, 97, 110], [112, 108, 97, 99, 101], [112, 105, 112, 101], [104, 121, 109, 110]]
/-- the string constants, and the JDK's statics on their way -/
def z_St (Γ : z_G) (U : State) : Prop := vk_S 4 [5, 5, 4, 4] z_by (fun i => gad Γ (300 + i)) (gaV Γ) (gA Γ) U U.heap ∧ (∀ i, i < 4 → vk_R "GonePipes$Text" (z_ix i) (z_tx i) (gad Γ (300 + i)) U) ∧ va_Z "java/lang/String" "COMPACT_STRINGS" "Z" (.int 1) (gA Γ) U U.heap ∧ (va_Z "jdk/internal/util/Preconditions" "SIOOBE_FORMATTER" "Ljava/util/function/BiFunction;" .null (gA Γ) U U.heap ∨ va_Z "jdk/internal/util/Preconditions" "SIOOBE_FORMATTER" "Ljava/util/function/BiFunction;" (.ref (gad Γ 350)) (gA Γ) U U.heap) ∧ va_Nw (.methodLinkNest RX4 122 yX10_hasNote "GonePipes") U
theorem z_St.go {Γ : z_G} {s U : State} (h : z_St Γ s) (hW : s.WarmedH U.vm) (hq : ∀ a : Nat, a < s.heap.size → ¬ gA Γ a → U.heap[a]? = s.heap[a]?) : z_St Γ U :=
  ⟨(h.1.moved hW.alike).kept hq, fun i hi => (h.2.1 i hi).warm hW, (h.2.2.1.moved hW.alike).kept hq, h.2.2.2.1.imp (fun q => (q.moved hW.alike).kept hq) (fun q => (q.moved hW.alike).kept hq), h.2.2.2.2.warmM hW⟩
theorem z_St.calling {Γ : z_G} {U : State} (h : z_St Γ U) (g : JFrame) (mk : MethodId) (a : Array Value) : z_St Γ (U.calling g mk a) :=
  ⟨h.1.moved (Vm.Alike.refl U.vm), fun i hi => (h.2.1 i hi).same rfl, h.2.2.1.moved (Vm.Alike.refl U.vm), h.2.2.2.1.imp (fun q => q.moved (Vm.Alike.refl U.vm)) (fun q => q.moved (Vm.Alike.refl U.vm)), h.2.2.2.2.same rfl rfl⟩
/-- words beside the law's list: super.mayGo of the Bourdon -/
def z_Wx : List Cond := [.methodLink RX0 13 ⟨RX7, "mayGo", "(LGonePipes$Organ;I)Z"⟩, .sameMethod RX7 RX6 "mayGo" "(LGonePipes$Organ;I)Z", .superclass RX0 RX7, .superclass RX7 RX6]
def z_W : List Cond := wsL_law ++ z_Wx
theorem z_WL {w : Cond} (h : w ∈ wsL_law) : w ∈ z_W := List.mem_append_left _ h
theorem z_good : ∀ w ∈ z_W, goodWord w = true := by
  have h : z_W.all goodWord = true := by decide +kernel
  exact fun w hw => List.all_eq_true.mp h w hw
theorem z_GoodIn {ws : List Cond} (h : ∀ w ∈ ws, w ∈ z_W) : GoodIn z_W ws := fun w hw => ⟨h w hw, good_of_word (z_good w (h w hw))⟩
/-- a method: its class, code, locals, answer, room, what is made by it, what else holds -/
abbrev z_Mt : Type := String × ByteArray × Nat × Option FieldType × Room × (Nat × Nat) × (z_G → State → Prop)
def z_Good (μ : z_Mt) (p : Program) (Rm : Room) (s : State) (m : MethodId) (args : Array Value) (meth : Method) (c : Code) (Γ : z_G) : Prop :=
  p.tables.exec = Jvm.exec ∧ c.code = μ.2.1 ∧ meth.sig.returnType = μ.2.2.2.1 ∧ c.maxLocals = μ.2.2.1 ∧ s.vm.findClass μ.1 = some m.cls ∧ (∀ w ∈ z_W, w.before args s = true) ∧ meth.locks = false ∧ Rm = μ.2.2.2.2.1 ∧ va_K (gD Γ) vwCl (z_tys (gcA Γ)) s ∧ z_ok Γ ∧ z_St Γ s ∧ μ.2.2.2.2.2.2 Γ s
/-- the machine's locals hold the listed ones -/
def z_lo (Γ : z_G) (lsA : Array Slot) (n : Nat) (ls : List z_V) : Prop := lsA.size = n ∧ lv_wf lsA ∧ ∀ (i : Nat) (v : z_V), ls[i]? = some v → v ≠ aU → lsA[i]? = some (.val (z_cv (gad Γ) v))
abbrev z_Fin : Type := z_G → List Frame → Array Value → State → State → Prop
def z_R (μ : z_Mt) (fin : z_Fin) (pc : Nat) (ls st : List z_V) (I : z_M) : Prop :=
  z_CI I → (∀ v ∈ ls, z_ca v) → (∀ v ∈ st, z_ca v) → ∀ (p : Program) (l : Launch) (e : Env) (Rm : Room) (s : State) (m : MethodId) (args : Array Value) (below : List Frame) (meth : Method) (c : Code) (Γ : z_G), z_Good μ p Rm s m args meth c Γ → ∀ (H : Heap) (locs : List Loc) (lsA : Array Slot), va_P (gD Γ) vwCl (z_ws (gad Γ) (gcA Γ) I) H → va_S (gA Γ) s.heap H locs → z_lo Γ lsA μ.2.2.1 ls →
    W p l e Rm s m args below meth c H locs μ.2.2.2.2.2.1.1 μ.2.2.2.2.2.1.2 (fin Γ below args s) (F0 m pc lsA (st.map (z_cv (gad Γ))))
/-- a contract's end -/
def z_Q (Γ : z_G) (Q : Option z_V → z_M → Prop) : Array Value → State → Outcome → State → Prop := fun _ st oc t =>
  (∃ (r : Option z_V) (I' : z_M), oc = .returned (r.map (z_cv (gad Γ))) ∧ Q r I' ∧ z_CI I' ∧ (∀ v, r = some v → z_ca v) ∧ va_P (gD Γ) vwCl (z_ws (gad Γ) (gcA Γ) I') t.heap) ∧ va_F (gA Γ) st t
def z_B (Γ : z_G) (I : z_M) (U : State) : Prop := va_P (gD Γ) vwCl (z_ws (gad Γ) (gcA Γ) I) U.heap ∧ va_K (gD Γ) vwCl (z_tys (gcA Γ)) U ∧ z_St Γ U
/-- a method's contract at given arguments and memory -/
def z_C (y : MethodName) (cc : ByteArray) (nL : Nat) (ret : Option FieldType) (rm : Room) (args : List z_V) (I : z_M) (Q : Option z_V → z_M → Prop) : Prop :=
  z_CI I → (∀ v ∈ args, z_ca v) → ∀ (l : Launch) (Γ : z_G), z_ok Γ → Met l y (.code y cc nL ret :: z_W) rm (va_Pc (args.map (z_cv (gad Γ))) (z_B Γ I)) (z_Q Γ Q) 0 0 (gA Γ)
def z_fin (Q : Option z_V → z_M → Prop) : z_Fin := fun Γ below args s => MQ below (z_Q Γ Q) args s 0 0 (gA Γ)
abbrev z_mt (own : String) (cc : ByteArray) (nL : Nat) (ret : Option FieldType) (rm : Room) : z_Mt := (own, cc, nL, ret, rm, (0, 0), fun _ _ => True)
/-- the locals with which a method begins -/
def z_lay : List z_V → List z_V
  | [] => []
  | v :: vs => match v with
    | .inr (.inl x) => aL x :: aU :: z_lay vs
    | w => w :: z_lay vs
theorem z_cat1 {ad : Nat → Nat} {v : z_V} (h : ∀ x, v ≠ aL x) : (z_cv ad v).category = 1 := by
  rcases v with x | x | x | x
  · rfl
  · exact absurd rfl (h x)
  · rfl
  · rfl
theorem z_lay_in {ad : Nat → Nat} : ∀ (vs : List z_V) (k i : Nat) (v : z_V), (z_lay vs)[i]? = some v → v ≠ aU → (k + i, z_cv ad v) ∈ lv_args k (vs.map (z_cv ad))
  | [], _, _, _, h, _ => by simp [z_lay] at h
  | w :: vs, k, i, v, h, hv => by
    have gen : (∀ x, w ≠ aL x) → (k + i, z_cv ad v) ∈ lv_args k ((w :: vs).map (z_cv ad)) := by
      intro hw
      have e : z_lay (w :: vs) = w :: z_lay vs := by
        rcases w with x | x | x | x
        · rfl
        · exact absurd rfl (hw x)
        · rfl
        · rfl
      rw [e] at h
      rw [List.map_cons]
      show _ ∈ (k, z_cv ad w) :: lv_args (if (z_cv ad w).category = 2 then k + 2 else k + 1) _
      rw [z_cat1 hw, if_neg (by decide)]
      cases i with
      | zero => simp at h; subst h; exact List.mem_cons_self
      | succ i =>
        rw [List.getElem?_cons_succ] at h
        have := z_lay_in (ad := ad) vs (k + 1) i v h hv
        rw [show k + (i + 1) = k + 1 + i by omega]
        exact List.mem_cons_of_mem _ this
    rcases w with x | x | x | x
    · exact gen (fun _ h => by cases h)
    · show _ ∈ (k, _) :: lv_args (k + 2) _
      have h : (aL x :: aU :: z_lay vs)[i]? = some v := h
      match i, h with
      | 0, h => simp at h; subst h; exact List.mem_cons_self
      | 1, h => simp at h; exact absurd h.symm hv
      | i + 2, h =>
        rw [List.getElem?_cons_succ, List.getElem?_cons_succ] at h
        have := z_lay_in (ad := ad) vs (k + 2) i v h hv
        rw [show k + (i + 2) = k + 2 + i by omega]
        exact List.mem_cons_of_mem _ this
    · exact gen (fun _ h => by cases h)
    · exact gen (fun _ h => by cases h)
theorem z_sl_len (ad : Nat → Nat) : ∀ args : List z_V, (lg_sl (args.map (z_cv ad))).length = (lg_sl (args.map (z_cv (fun _ => 0)))).length
  | [] => rfl
  | v :: vs => by
    have ih := z_sl_len ad vs
    simp only [lg_sl, List.map_cons, List.flatMap_cons, List.length_append] at ih ⊢
    rw [ih]
    congr 1
    rcases v with x | x | x | x <;> rfl
/-- from the entry: a contract out of a walk -/
theorem z_intro {y : MethodName} {cc : ByteArray} {nL : Nat} {ret : Option FieldType} {rm : Room} {args : List z_V} {I : z_M} {Q : Option z_V → z_M → Prop} (hy : plainName y.cls = true) (n : Nat) (hn : (lg_sl (args.map (z_cv (fun _ => 0)))).length ≤ nL) (h : z_R (z_mt y.cls cc nL ret rm) (z_fin Q) 0 (z_lay args ++ List.replicate n aU) [] I) : z_C y cc nL ret rm args I Q := by
  intro hC hA l Γ hok
  refine Met.ofW (cc := cc) (maxL := nL) (ret := ret) hy rfl ?_
  intro p e s m args' below meth c s₁ B hml hv
  obtain ⟨rfl, hP, hK, hSt⟩ := hv
  have hts := atoms_spec (ws := .code y cc nL ret :: z_W) B.pre
  have hl := lv_entry (args.map (z_cv (gad Γ))) (n := nL) (by rw [z_sl_len]; exact hn)
  rw [lg_entry_eq]
  generalize (lg_sl (args.map (z_cv (gad Γ))) ++ List.replicate (nL - (lg_sl (args.map (z_cv (gad Γ)))).length) Slot.unset).toArray = lsA at hl ⊢
  have hlo : z_lo Γ lsA nL (z_lay args ++ List.replicate n aU) := by
    refine ⟨hl.1, hl.2.1, fun i v hi hv => ?_⟩
    by_cases hlt : i < (z_lay args).length
    · rw [List.getElem?_append_left hlt] at hi
      have h1 := z_lay_in (ad := gad Γ) args 0 i v hi hv
      rw [Nat.zero_add] at h1
      exact hl.2.2 _ h1
    · rw [List.getElem?_append_right (by omega)] at hi
      exact absurd (List.eq_of_mem_replicate (List.mem_of_getElem? hi)) hv
  have hca : ∀ (vs : List z_V), (∀ v ∈ vs, z_ca v) → ∀ v ∈ z_lay vs, z_ca v := by
    intro vs
    induction vs with
    | nil => intro _ v hv; cases hv
    | cons w vs ih =>
      intro hw v hv
      have hvs := ih (fun v h => hw v (List.mem_cons_of_mem _ h))
      have h0 := hw w List.mem_cons_self
      rcases w with x | x | x | x
      · rcases List.mem_cons.mp (show v ∈ aI x :: z_lay vs from hv) with rfl | h
        · exact h0
        · exact hvs v h
      · rcases List.mem_cons.mp (show v ∈ aL x :: aU :: z_lay vs from hv) with rfl | h
        · exact h0
        · rcases List.mem_cons.mp h with rfl | h
          · exact trivial
          · exact hvs v h
      · rcases List.mem_cons.mp (show v ∈ aR x :: z_lay vs from hv) with rfl | h
        · exact h0
        · exact hvs v h
      · rcases List.mem_cons.mp (show v ∈ (Sum.inr (Sum.inr (Sum.inr x))) :: z_lay vs from hv) with rfl | h
        · exact h0
        · exact hvs v h
  refine h hC (fun v hv => ?_) (fun v hv => by cases hv) p l e rm s m _ below meth c Γ ⟨B.exec, B.bytes, B.returns, hml, findClass_of_methodNamed B.named, fun w hw => hts w (List.mem_cons_of_mem _ hw), B.notSynchronized, rfl, hK, hok, hSt, trivial⟩ s.heap [] lsA hP va_S.rf hlo
  rcases List.mem_append.mp hv with h1 | h1
  · exact hca args hA v h1
  · rw [List.eq_of_mem_replicate h1]; exact trivial
