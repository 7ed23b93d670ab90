/-! the law from its entry -/
theorem kArr {args : Array Value} {s : State} {ty : FieldType} (h : (Cond.arrayClass ty).before args s = true) : ∃ cA, ArrOfT s cA ty ∧ s.vm.findClass ("[" ++ ty.toString) = some cA := by
  obtain ⟨cA, kA, comp, h1, h2, h3⟩ := Cond.arrayClass_spec h
  exact ⟨cA, fun n z => ⟨fun k h => (by cases h), kA, h2, comp, h3⟩, h1⟩
theorem kArq {s : State} {C : String} (h : va_AO C s) : ∃ cA, ArrOfT s cA (.object C) ∧ va_RA s cA (.object C) := by
  obtain ⟨comp, cA, kA, h1, h2, h3, h4, h5⟩ := Cond.arrayOver_spec h
  exact ⟨cA, fun n z => ⟨fun k h => (by cases h), kA, h3, comp, h4⟩, kA, comp, h3, h4, h1, h5⟩
theorem T5_ex {args : Array Value} {s : State} (hW : ∀ w ∈ z_W, w.before args s = true) (hF : kF s) : ∃ c : kS, ∀ (k : Nat) (q : ClassId × FieldType), (T5 c)[k]? = some q → ArrOfT s q.1 q.2 ∧ va_RA s q.1 q.2 := by
  obtain ⟨c0, a0, b0⟩ := kArr (hW _ m_2_23)
  obtain ⟨c1, a1, b1⟩ := kArr (hW _ m_4_14)
  obtain ⟨c2, a2, b2⟩ := kArr (hW _ m_2_13)
  obtain ⟨c3, a3, b3⟩ := kArq hF.1
  obtain ⟨c4, a4, b4⟩ := kArq hF.2.1
  refine ⟨fun i => [c0, c1, c2, c3, c4].getD i c0, fun k q hk => ?_⟩
  match k, hk with
  | 0, hk => cases hk; exact ⟨a0, b0⟩
  | 1, hk => cases hk; exact ⟨a1, b1⟩
  | 2, hk => cases hk; exact ⟨a2, b2⟩
  | 3, hk => cases hk; exact ⟨a3, b3⟩
  | 4, hk => cases hk; exact ⟨a4, b4⟩
  | k + 5, hk => simp [T5] at hk
theorem Kn_ex {args : Array Value} {s : State} (hW : ∀ w ∈ z_W, w.before args s = true) : ∃ D : va_G, ∀ (k : Nat) (q : vw_C), vwCl[k]? = some q → u_Kn s q.1 q.2.1 q.2.2 (D.1 k) (D.2 k) := by
  obtain ⟨d0, i0, e0⟩ := u_known (C := RX0) (T := TX0) (N := 0) (n := 0) hW (fun w h => z_WL (inlX0 w h)) (hW _ m_1_22)
  obtain ⟨d1, i1, e1⟩ := u_known (C := RX1) (T := TX1) (N := 0) (n := 0) hW (fun w h => z_WL (inlX1 w h)) (hW _ m_1_19)
  obtain ⟨d2, i2, e2⟩ := u_known (C := RX2) (T := TX2) (N := 0) (n := 0) hW (fun w h => z_WL (inlX2 w h)) (hW _ m_2_1)
  obtain ⟨d3, i3, e3⟩ := u_known (C := RX3) (T := TX3) (N := 0) (n := 0) hW (fun w h => z_WL (inlX3 w h)) (hW _ m_2_4)
  obtain ⟨d4, i4, e4⟩ := u_known (C := RX4) (T := TX4) (N := 13) (n := 13) hW (fun w h => z_WL (inlX4 w h)) (hW _ m_2_8)
  obtain ⟨d5, i5, e5⟩ := u_known (C := RX5) (T := TX5) (N := 3) (n := 3) hW (fun w h => z_WL (inlX5 w h)) (hW _ m_4_4)
  obtain ⟨d6, i6, e6⟩ := u_known (C := RX6) (T := TX6) (N := 0) (n := 0) hW (fun w h => z_WL (inlX6 w h)) (hW _ m_1_13)
  obtain ⟨d7, i7, e7⟩ := u_known (C := RX7) (T := TX7) (N := 0) (n := 0) hW (fun w h => z_WL (inlX7 w h)) (hW _ m_1_16)
  obtain ⟨d8, i8, e8⟩ := u_known (C := RX8) (T := TX8) (N := 7) (n := 7) hW (fun w h => z_WL (inlX8 w h)) (hW _ m_2_16)
  obtain ⟨d9, i9, e9⟩ := u_known (C := RX9) (T := TX9) (N := 3) (n := 3) hW (fun w h => z_WL (inlX9 w h)) (hW _ m_2_20)
  obtain ⟨d10, i10, e10⟩ := u_known (C := RX10) (T := TX10) (N := 13) (n := 13) hW (fun w h => z_WL (inlX10 w h)) (hW _ m_1_1)
  obtain ⟨d11, i11, e11⟩ := u_known (C := RX11) (T := TX11) (N := 23) (n := 23) hW (fun w h => z_WL (inlX11 w h)) (hW _ m_1_4)
  refine ⟨(fun k => [d0, d1, d2, d3, d4, d5, d6, d7, d8, d9, d10, d11].getD k d0, fun k => [i0, i1, i2, i3, i4, i5, i6, i7, i8, i9, i10, i11].getD k i0), fun k q hk => ?_⟩
  match k, hk with
  | 0, hk => cases hk; exact e0
  | 1, hk => cases hk; exact e1
  | 2, hk => cases hk; exact e2
  | 3, hk => cases hk; exact e3
  | 4, hk => cases hk; exact e4
  | 5, hk => cases hk; exact e5
  | 6, hk => cases hk; exact e6
  | 7, hk => cases hk; exact e7
  | 8, hk => cases hk; exact e8
  | 9, hk => cases hk; exact e9
  | 10, hk => cases hk; exact e10
  | 11, hk => cases hk; exact e11
  | k + 12, hk => simp at hk
theorem kF_0 {args : Array Value} {s : State} (hts : ∀ w ∈ lw_tbl, w.before args s = true) : kF s := by
  refine ⟨va_AO.of (hts _ (tb1 (i := 29) rfl)), va_AO.of (hts _ (tb1 (i := 154) rfl)), fun C hC => ?_, fun q hq => ?_⟩
  · simp only [kCast, List.mem_cons, List.not_mem_nil, or_false] at hC
    rcases hC with rfl | rfl | rfl | rfl | rfl
    · exact va_Nw.of rfl (hts _ (tb6 (i := 73) rfl))
    · exact va_Nw.of rfl (hts _ (tb6 (i := 74) rfl))
    · exact va_Nw.of rfl (hts _ (tb6 (i := 75) rfl))
    · exact va_Nw.of rfl (hts _ (tb6 (i := 76) rfl))
    · exact va_Nw.of rfl (hts _ (tb6 (i := 77) rfl))
  · simp only [kNest, List.mem_cons, List.not_mem_nil, or_false] at hq
    rcases hq with rfl | rfl | rfl | rfl | rfl | rfl | rfl | rfl | rfl | rfl | rfl | rfl | rfl | rfl | rfl
    · exact va_Nw.of rfl (hts _ (tb1 (i := 31) rfl))
    · exact va_Nw.of rfl (hts _ (tb1 (i := 38) rfl))
    · exact va_Nw.of rfl (hts _ (tb1 (i := 45) rfl))
    · exact va_Nw.of rfl (hts _ (tb1 (i := 52) rfl))
    · exact va_Nw.of rfl (hts _ (tb1 (i := 59) rfl))
    · exact va_Nw.of rfl (hts _ (tb1 (i := 66) rfl))
    · exact va_Nw.of rfl (hts _ (tb1 (i := 73) rfl))
    · exact va_Nw.of rfl (hts _ (tb1 (i := 157) rfl))
    · exact va_Nw.of rfl (hts _ (tb1 (i := 188) rfl))
    · exact va_Nw.of rfl (hts _ (tb1 (i := 41) rfl))
    · exact va_Nw.of rfl (hts _ (tb1 (i := 48) rfl))
    · exact va_Nw.of rfl (hts _ (tb1 (i := 55) rfl))
    · exact va_Nw.of rfl (hts _ (tb1 (i := 62) rfl))
    · exact va_Nw.of rfl (hts _ (tb1 (i := 69) rfl))
    · exact va_Nw.of rfl (hts _ (tb1 (i := 79) rfl))
theorem z_W_in : ∀ w ∈ z_W, w ∈ lw_tbl := by
  intro w h
  rcases List.mem_append.mp h with h | h
  · exact wsL_law_in w h
  · simp only [z_Wx, List.mem_cons, List.not_mem_nil, or_false] at h
    rcases h with rfl | rfl | rfl | rfl
    · exact tb2 (i := 226) rfl
    · exact tb2 (i := 227) rfl
    · exact tb1 (i := 56) rfl
    · exact tb1 (i := 42) rfl
theorem St_0 {b : Nat} {s : State} {A : Nat → Prop} (hgv : (Jvm.Cond.and given_1 narrow_1).before #[Value.ref b] s = true) (hts : ∀ w ∈ lw_tbl, w.before #[Value.ref b] s = true) (hA : ∀ a : Nat, a < s.heap.size → ¬ A a) : ∃ (fm : Nat) (adK adV : Nat → Nat), ∀ Γ : z_G, (∀ i, i < 4 → gad Γ (300 + i) = adK i ∧ gad Γ (400 + i) = adV i) → gad Γ 350 = fm → gA Γ = A → z_St Γ s := by
  have hs := flat_of_before _ hgv
  have four : ∀ {i : Nat}, i < 4 → i = 0 ∨ i = 1 ∨ i = 2 ∨ i = 3 := fun h => by omega
  obtain ⟨adK, adV, hSS, hev⟩ := vk_Sof (args := #[Value.ref b]) (s := s) (N := 4) (tm := fun i => Term.string "GonePipes$Text" (z_ix i)) (len := [5, 5, 4, 4]) (byt := z_by) (A := A) (by decide)
    (fun i hi => by rcases four hi with rfl | rfl | rfl | rfl <;> exact hs _ (by decide +kernel))
    (fun i hi => by rcases four hi with rfl | rfl | rfl | rfl <;> exact hs _ (by decide +kernel))
    (fun i hi => by rcases four hi with rfl | rfl | rfl | rfl <;> exact hs _ (by decide +kernel))
    (fun i hi => by rcases four hi with rfl | rfl | rfl | rfl <;> exact hs _ (by decide +kernel))
    (fun i hi j hj => by
      rcases four hi with rfl | rfl | rfl | rfl
      · have hj : j < 5 := hj
        rcases (show j = 0 ∨ j = 1 ∨ j = 2 ∨ j = 3 ∨ j = 4 by omega) with rfl | rfl | rfl | rfl | rfl <;> exact hs _ (by decide +kernel)
      · have hj : j < 5 := hj
        rcases (show j = 0 ∨ j = 1 ∨ j = 2 ∨ j = 3 ∨ j = 4 by omega) with rfl | rfl | rfl | rfl | rfl <;> exact hs _ (by decide +kernel)
      · have hj : j < 4 := hj
        rcases (show j = 0 ∨ j = 1 ∨ j = 2 ∨ j = 3 by omega) with rfl | rfl | rfl | rfl <;> exact hs _ (by decide +kernel)
      · have hj : j < 4 := hj
        rcases (show j = 0 ∨ j = 1 ∨ j = 2 ∨ j = 3 by omega) with rfl | rfl | rfl | rfl <;> exact hs _ (by decide +kernel))
    (fun i j hi hj hij => by
      rcases four hi with rfl | rfl | rfl | rfl <;> rcases four hj with rfl | rfl | rfl | rfl <;> first | exact absurd rfl hij | exact Or.inl (hs _ (by decide +kernel)) | exact Or.inr (hs _ (by decide +kernel)))
    hA
  have hC := va_Zof (A := A) (hts _ (tb2 (i := 113) rfl)) (hts _ (tb1 (i := 13) rfl)) (va_eqi (C := "java/lang/String") (n := "COMPACT_STRINGS") (d := "Z") (z := 1) (hs _ (by decide +kernel))) hA
  have hR : ∀ i, i < 4 → vk_R "GonePipes$Text" (z_ix i) (z_tx i) (adK i) s := fun i hi => by
    refine vk_R.of (A := #[Value.ref b]) ?_ (hev i hi)
    rcases four hi with rfl | rfl | rfl | rfl
    · exact hts _ (tb2 (i := 99) rfl)
    · exact hts _ (tb2 (i := 160) rfl)
    · exact hts _ (tb2 (i := 170) rfl)
    · exact hts _ (tb2 (i := 176) rfl)
  have hN := va_Nw.of (w := .methodLinkNest RX4 122 yX10_hasNote "GonePipes") rfl (hts _ (tb3 (i := 134) rfl))
  have fin : ∀ (fm : Nat), (va_Z "jdk/internal/util/Preconditions" "SIOOBE_FORMATTER" "Ljava/util/function/BiFunction;" .null A s s.heap ∨ va_Z "jdk/internal/util/Preconditions" "SIOOBE_FORMATTER" "Ljava/util/function/BiFunction;" (.ref fm) A s s.heap) → ∀ Γ : z_G, (∀ i, i < 4 → gad Γ (300 + i) = adK i ∧ gad Γ (400 + i) = adV i) → gad Γ 350 = fm → gA Γ = A → z_St Γ s := by
    intro fm hz Γ hg h350 hgA
    unfold z_St
    rw [h350, hgA]
    refine ⟨⟨fun i hi => ?_, fun i j hi hj e => ?_⟩, fun i hi => ?_, hC, hz, hN⟩
    · show va_O "java/lang/String" (gad Γ (300 + i)) A s s.heap ∧ va_OF "java/lang/String" "coder" "B" (.int 0) (gad Γ (300 + i)) A s s.heap ∧ va_OF "java/lang/String" "value" "[B" (.ref (gad Γ (400 + i))) (gad Γ (300 + i)) A s s.heap ∧ va_T .byte (gad Γ (400 + i)) ([5, 5, 4, 4].getD i 0) (fun j => .int ((z_by.getD i []).getD j 0)) A s s.heap
      rw [(hg i hi).1, (hg i hi).2]
      exact hSS.1 i hi
    · have e : gad Γ (300 + i) = gad Γ (300 + j) := e
      rw [(hg i hi).1, (hg j hj).1] at e
      exact hSS.2 i j hi hj e
    · rw [(hg i hi).1]
      exact hR i hi
  rcases va_Zqof (A := A) (hts _ (tb2 (i := 129) rfl)) (hts _ (tb1 (i := 15) rfl)) (hs (Cond.isRef (.static "jdk/internal/util/Preconditions" "SIOOBE_FORMATTER" "Ljava/util/function/BiFunction;")) (by decide +kernel)) hA with h | ⟨t, h⟩
  · exact ⟨0, adK, adV, fin 0 (Or.inl h)⟩
  · exact ⟨t, adK, adV, fin t (Or.inr h)⟩
theorem dL_0 : decode cL_law 0 = .ok (.new 7, 3) := by decide +kernel
theorem dL_3 : decode cL_law 3 = .ok (.dup, 1) := by decide +kernel
theorem dL_4 : decode cL_law 4 = .ok (.invokespecial 9, 3) := by decide +kernel
theorem dL_7 : decode cL_law 7 = .ok (.astore_n 1, 1) := by decide +kernel
theorem dL_8 : decode cL_law 8 = .ok (.new 10, 3) := by decide +kernel
theorem dL_11 : decode cL_law 11 = .ok (.dup, 1) := by decide +kernel
theorem dL_12 : decode cL_law 12 = .ok (.invokespecial 12, 3) := by decide +kernel
theorem dL_15 : decode cL_law 15 = .ok (.astore_n 2, 1) := by decide +kernel
theorem dL_16 : decode cL_law 16 = .ok (.iconst 0, 1) := by decide +kernel
theorem dL_17 : decode cL_law 17 = .ok (.istore_n 3, 1) := by decide +kernel
set_option maxHeartbeats 4000000 in
set_option maxRecDepth 100000 in
theorem whole_start {p : Program} {e : Env} {s : State} {m : MethodId} {below : List Frame} {meth : Method} {c : Code} (l : Launch) (hflags : l.flags = flags0) {b L : Nat} {xs : Nat → Int32} (hL : L ≤ 384) (C0 : lw_At p s m meth c b L xs) : W p l e room_1 s m #[Value.ref b] below meth c s.heap [] 0 0 (lw_Z below #[Value.ref b] s) (entryFrame m ([Value.ref b] : List Value).toArray 4) := by
  obtain ⟨hx, hb, hr, hml, hown, hts, hX, hbl, hlocks, hgv⟩ := id C0
  have hown : s.vm.findClass RL = some m.cls := hown
  have hb : c.code = cL_law := hb
  have hW : ∀ w ∈ z_W, w.before #[Value.ref b] s = true := fun w hw => hts w (z_W_in w hw)
  have hA : ∀ q : Nat, s.heap.size ≤ q → (fun q : Nat => s.heap.size ≤ q) q := fun _ h => h
  have hbA : ¬ (fun q : Nat => s.heap.size ≤ q) b := Nat.not_le.mpr hbl
  have hF := kF_0 hts
  obtain ⟨D, hKn⟩ := Kn_ex hW
  obtain ⟨cc, hT⟩ := T5_ex hW hF
  have hK : va_K D vwCl (T5 cc) s := ⟨hKn, hT⟩
  have hS : va_S (fun q : Nat => s.heap.size ≤ q) s.heap s.heap [] := va_S.rf
  have hP : va_P D vwCl [] s.heap := fun k q h => by simp at h
  have hD : va_D (fun q : Nat => s.heap.size ≤ q) [] := ⟨fun i j p q h => by simp at h, fun k q h => by simp at h⟩
  have hl := lv_entry ([.ref b]) (n := 4) (Nat.le_of_ble_eq_true rfl)
  rw [lg_entry_eq]
  generalize (lg_sl ([.ref b]) ++ List.replicate (4 - (lg_sl ([.ref b])).length) Slot.unset).toArray = ls at hl ⊢
  have hl : lv_has ls 4 [(0, .ref b)] := hl
  refine va_new (ci := 10) (fs := [.null, .null, .null, .null, .null, .null, .null, .null, .long 0, .long 0, .int 0, .int 0, .int 0]) (C := RX10) (T := TX10) (N := 13) hx hb hW (fun w h => z_WL (inlX10 w h)) tyX10 tyX10_ok hown (hW _ m_1_0) (hW _ m_1_1) (hW _ m_1_2) hK hP hD hS hA rfl (fun j hj => by rcases (show j = 0 ∨ j = 1 ∨ j = 2 ∨ j = 3 ∨ j = 4 ∨ j = 5 ∨ j = 6 ∨ j = 7 ∨ j = 8 ∨ j = 9 ∨ j = 10 ∨ j = 11 ∨ j = 12 by omega) with rfl | rfl | rfl | rfl | rfl | rfl | rfl | rfl | rfl | rfl | rfl | rfl | rfl <;> rfl) (Nat.le_of_ble_eq_true rfl) (Nat.le_of_ble_eq_true rfl) dL_0 (fun q0 H hP hD hS => ?_)
  refine lv_dup hx hb dL_3 rfl ?_
  have hPc := hP.sub (ws' := [(q0, .inr (10, [.null, .null, .null, .null, .null, .null, .null, .null, .long 0, .long 0, .int 0, .int 0, .int 0]))]) [0] rfl
  have hDc := hD.sub (ws' := [(q0, .inr (10, [.null, .null, .null, .null, .null, .null, .null, .null, .long 0, .long 0, .int 0, .int 0, .int 0]))]) [0] rfl rfl
  have hFc := va_free (wc := [(q0, .inr (10, [.null, .null, .null, .null, .null, .null, .null, .null, .long 0, .long 0, .int 0, .int 0, .int 0]))]) hD hS hA [0] rfl
  refine va_callv (va_runI (As := []) (rest := [.ref q0]) (nL := 4) ⟨hx, hb, hml, hown, hW⟩ (cKX10 (c := cc) (h := q0) l D H.size) (cwI 0 hW (z_GoodIn (z_wsin m_1_8)) rfl rfl rfl (hW _ m_1_2) (hW _ m_1_6) (hW _ m_1_7) rfl (by decide +kernel) ⟨Nat.le_of_ble_eq_true rfl, Nat.le_of_ble_eq_true rfl⟩) ⟨k_blind, fun U hU hW1 => ⟨rfl, by rw [hU], by rw [hU]; exact hPc, va_K.moved hW1.alike hK, hDc.weaken (fun _ _ _ _ => trivial), hF.go hW1⟩⟩ rfl rfl hl.1 rfl (lv_room (Nat.le_of_ble_eq_true rfl)) dL_4 ⟨Nat.le_of_ble_eq_true rfl, Nat.le_of_ble_eq_true rfl⟩) hS (fun q _ h => hFc q h) hFc (fun u t H1 locs ht hvm hw hB hz1 hk1 hS => ?_)
  obtain ⟨hP1, hK1, hD1⟩ := hB
  rw [ht] at hP1
  obtain ⟨hP, hD⟩ := k_join (wr := []) hP hD hk1 hFc hP1 hD1
  have hP : va_P D vwCl (wKX10 cc q0 u) H1 := hP
  have hD : va_D (fun q : Nat => s.heap.size ≤ q) (wKX10 cc q0 u) := hD
  clear hP1 hK1 hD1 hPc hDc hFc hk1 hz1
  refine lv_astore_n (lv' := [(1, .ref q0), (0, .ref b)]) hx hb dL_7 rfl hl (by decide) rfl (fun ls hl => ?_)
  refine va_new (ci := 11) (fs := [.null, .null, .null, .null, .long 0, .long 0, .int 0, .null, .null, .null, .null, .null, .int 0, .int 0, .null, .null, .int 0, .int 0, .int 0, .int 0, .int 0, .null, .null]) (C := RX11) (T := TX11) (N := 23) hx hb hW (fun w h => z_WL (inlX11 w h)) tyX11 tyX11_ok hown (hW _ m_1_3) (hW _ m_1_4) (hW _ m_1_5) hK hP hD hS hA rfl (fun j hj => by rcases (show j = 0 ∨ j = 1 ∨ j = 2 ∨ j = 3 ∨ j = 4 ∨ j = 5 ∨ j = 6 ∨ j = 7 ∨ j = 8 ∨ j = 9 ∨ j = 10 ∨ j = 11 ∨ j = 12 ∨ j = 13 ∨ j = 14 ∨ j = 15 ∨ j = 16 ∨ j = 17 ∨ j = 18 ∨ j = 19 ∨ j = 20 ∨ j = 21 ∨ j = 22 by omega) with rfl | rfl | rfl | rfl | rfl | rfl | rfl | rfl | rfl | rfl | rfl | rfl | rfl | rfl | rfl | rfl | rfl | rfl | rfl | rfl | rfl | rfl | rfl <;> rfl) (Nat.le_of_ble_eq_true rfl) (Nat.le_of_ble_eq_true rfl) dL_8 (fun q60 H hP hD hS => ?_)
  refine lv_dup hx hb dL_11 rfl ?_
  have hPc := hP.sub (ws' := [(q60, .inr (11, [.null, .null, .null, .null, .long 0, .long 0, .int 0, .null, .null, .null, .null, .null, .int 0, .int 0, .null, .null, .int 0, .int 0, .int 0, .int 0, .int 0, .null, .null]))]) [60] rfl
  have hDc := hD.sub (ws' := [(q60, .inr (11, [.null, .null, .null, .null, .long 0, .long 0, .int 0, .null, .null, .null, .null, .null, .int 0, .int 0, .null, .null, .int 0, .int 0, .int 0, .int 0, .int 0, .null, .null]))]) [60] rfl rfl
  have hFc := va_free (wc := [(q60, .inr (11, [.null, .null, .null, .null, .long 0, .long 0, .int 0, .null, .null, .null, .null, .null, .int 0, .int 0, .null, .null, .int 0, .int 0, .int 0, .int 0, .int 0, .null, .null]))]) hD hS hA [60] rfl
  refine va_callv (va_runI (As := []) (rest := [.ref q60]) (nL := 4) ⟨hx, hb, hml, hown, hW⟩ (cKX11 (c := cc) (h := q60) l D H.size) (cwI 0 hW (z_GoodIn (z_wsin m_4_23)) rfl rfl rfl (hW _ m_1_5) (hW _ m_4_21) (hW _ m_4_22) rfl (by decide +kernel) ⟨Nat.le_of_ble_eq_true rfl, Nat.le_of_ble_eq_true rfl⟩) ⟨k_blind, fun U hU hW1 => ⟨rfl, by rw [hU], by rw [hU]; exact hPc, va_K.moved hW1.alike hK, hDc.weaken (fun _ _ _ _ => trivial), hF.go hW1⟩⟩ rfl rfl hl.1 rfl (lv_room (Nat.le_of_ble_eq_true rfl)) dL_12 ⟨Nat.le_of_ble_eq_true rfl, Nat.le_of_ble_eq_true rfl⟩) hS (fun q _ h => hFc q h) hFc (fun u' t H1 locs ht hvm hw hB hz1 hk1 hS => ?_)
  obtain ⟨hP1, hK1, hD1⟩ := hB
  rw [ht] at hP1
  obtain ⟨hP, hD⟩ := k_join hP hD hk1 hFc hP1 hD1
  clear hP1 hK1 hD1 hPc hDc hFc hk1 hz1
  refine lv_astore_n (lv' := [(2, .ref q60), (1, .ref q0), (0, .ref b)]) hx hb dL_15 rfl hl (by decide) rfl (fun ls hl => ?_)
  obtain ⟨fm, adK, adV, hSt⟩ := St_0 (A := fun q : Nat => s.heap.size ≤ q) hgv hts (fun a h => Nat.not_le.mpr h)
  have hR : z_R (muL L (fun j => (xs j).toInt)) finL 16 [aR 200, aR 0, aR 60, aU] [] I00 := by
    refine g_iconst (n := 0) dL_16 (by decide) ?_
    refine g_istore_n (i := 3) (x := 0) dL_17 rfl (show 3 < 4 by decide) rfl ?_
    exact L_loop (fun j => ⟨Int32.le_toInt _, Int.le_of_lt_add_one (Int32.toInt_lt _)⟩) hL L 0 I00 (by omega) (by omega) RR_0
  have eX : (fun j => z_i ((xs j).toInt)) = xs := funext (fun j => Int32.ofInt_toInt _)
  refine hR I00_C (fun v hv => ?_) (fun v hv => by simp at hv) p l e room_1 s m #[Value.ref b] below meth c (D, adOf q0 q60 u u' b fm adK adV, z_cAof cc, fun q => s.heap.size ≤ q, (0, fun _ => 0), fun _ => 0) ⟨hx, hb, hr, hml, hown, hW, hlocks, rfl, K_at hK, W_ok hD, hSt _ (fun i hi => ?_) rfl rfl, ?_, hbl, hbA, fun q h => h⟩ H1 locs ls (W_at hP) hS ⟨hl.1, hl.2.1, fun i v hv hne => ?_⟩
  · simp only [List.mem_cons, List.not_mem_nil, or_false] at hv
    rcases hv with rfl | rfl | rfl | rfl <;> exact trivial
  · rcases (show i = 0 ∨ i = 1 ∨ i = 2 ∨ i = 3 by omega) with rfl | rfl | rfl | rfl <;> exact ⟨rfl, rfl⟩
  · show va_X b L (fun j => z_i ((xs j).toInt)) s s.heap
    rw [eX]
    exact hX
  · match i, hv with
    | 0, hv => cases hv; exact lv_at hl 2 rfl
    | 1, hv => cases hv; exact lv_at hl 1 rfl
    | 2, hv => cases hv; exact lv_at hl 0 rfl
    | 3, hv => cases hv; exact absurd rfl hne
    | i + 4, hv => simp at hv
