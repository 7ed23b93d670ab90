/-! the world that the constructors make, as the layer has it -/
theorem arrV_c {cI : ClassId} {N : Nat} {f g : Nat → Value} (h : ∀ j, j < N → f j = g j) : arrV cI N f = arrV cI N g := by
  unfold arrV
  have : (fun j : Fin N => f j.val) = fun j : Fin N => g j.val := funext (fun j => h j.val j.isLt)
  rw [this]
def I00 : z_M := fun k j => if k = 0 then (if j = 9 then 1 else 0) else if k = 60 then (if j = 5 then 1 else 0) else 0
theorem I00_0 {k : Nat} (h : k ≠ 0 ∧ k ≠ 60) : I00 k = fun _ => 0 := by
  funext j
  unfold I00
  rw [if_neg h.1, if_neg h.2]
theorem I00_C : z_CI I00 := by
  intro k j
  unfold I00
  split
  · split
    · exact ⟨by decide, fun _ => by decide⟩
    · exact ⟨by decide, fun _ => by decide⟩
  · split
    · split
      · exact ⟨by decide, fun _ => by decide⟩
      · exact ⟨by decide, fun _ => by decide⟩
    · exact ⟨by decide, fun _ => by decide⟩
theorem RR_0 : RR I00 := by
  refine ⟨⟨0, 0, ⟨⟨rfl, rfl, rfl, fun x hx => absurd hx (Nat.not_lt_zero x), fun x hx => absurd hx (Nat.not_lt_zero x)⟩, fun x hx => absurd hx (Nat.not_lt_zero x), ⟨rfl, rfl, by decide, by decide, fun x hx => absurd hx (Nat.not_lt_zero x), fun x hx => absurd hx (Nat.not_lt_zero x)⟩, fun x hx => absurd hx (Nat.not_lt_zero x)⟩, fun x hx => ?_, ⟨?_, rfl, fun t ht => absurd (show (t : Int) < 0 from ht) (by omega)⟩, rpU_0 (b := 17) rfl rfl rfl rfl⟩, fun i hi => ⟨rfl, Or.inl rfl, fun z => absurd (show (0 : Int) = 1 from z) (by decide)⟩, ⟨0, by decide, rfl, rfl, fun k hk => absurd hk (Nat.not_lt_zero k)⟩, rfl, rfl, rfl, rfl, rfl⟩
  · have e : I00 61 (62 + 9 * x) = 0 := by rw [I00_0 (by decide)]
    rw [e]
    exact ⟨by decide, by rw [I00_0 (by decide)], fun k hk => by omega⟩
  · rw [I00_0 (show (61 : Nat) ≠ 0 ∧ (61 : Nat) ≠ 60 by decide)]
    exact ⟨Int.le_refl 0, show (0 : Int) ≤ 6 by decide⟩
theorem z_l1 : z_l 1 = 1 := by decide +kernel
def z_cAof (c : kS) : Nat → ClassId := fun k => if z_cl k = 21 then c 1 else if z_cl k = 22 then c 2 else if z_cl k = 23 then c 4 else if z_cl k = 24 then c 3 else c 0
def adOf (q0 q60 : Nat) (u u' : Nat → Nat) (b fm : Nat) (adK adV : Nat → Nat) : Nat → Nat := fun k => if k < 60 then (if k = 0 then q0 else u k) else if k < 74 then (if k = 60 then q60 else u' (k - 60)) else if k = 200 then b else if k = 350 then fm else if k < 400 then adK (k - 300) else adV (k - 400)
theorem z_ent0 {ad : Nat → Nat} {cA : Nat → ClassId} {k : Nat} (h1 : 12 ≤ z_cl k) (h2 : z_cl k < 23) (h0 : k ≠ 0 ∧ k ≠ 60) : z_ent ad cA I00 k = .inl (cA k, (z_n k, .inl (fun _ => 0))) := by
  rw [z_ent_a h1 h2, I00_0 h0]
  simp only [z_i0]
section QU
variable {D : va_G} {c : kS} {q0 q60 : Nat} {u u' : Nat → Nat} {b fm : Nat} {adK adV : Nat → Nat} {H : Heap} {A : Nat → Prop}
set_option maxRecDepth 100000 in
theorem W_k : ∀ k, k < 74 → ∃ e, (wKX10 c q0 u ++ wKX11 c q60 u')[k]? = some (adOf q0 q60 u u' b fm adK adV k, e) := by
  intro k hk
  rcases (show k = 0 ∨ k = 1 ∨ k = 2 ∨ k = 3 ∨ k = 4 ∨ k = 5 ∨ k = 6 ∨ k = 7 ∨ k = 8 ∨ k = 9 ∨ k = 10 ∨ k = 11 ∨ k = 12 ∨ k = 13 ∨ k = 14 ∨ k = 15 ∨ k = 16 ∨ k = 17 ∨ k = 18 ∨ k = 19 ∨ k = 20 ∨ k = 21 ∨ k = 22 ∨ k = 23 ∨ k = 24 ∨ k = 25 ∨ k = 26 ∨ k = 27 ∨ k = 28 ∨ k = 29 ∨ k = 30 ∨ k = 31 ∨ k = 32 ∨ k = 33 ∨ k = 34 ∨ k = 35 ∨ k = 36 ∨ k = 37 ∨ k = 38 ∨ k = 39 ∨ k = 40 ∨ k = 41 ∨ k = 42 ∨ k = 43 ∨ k = 44 ∨ k = 45 ∨ k = 46 ∨ k = 47 ∨ k = 48 ∨ k = 49 ∨ k = 50 ∨ k = 51 ∨ k = 52 ∨ k = 53 ∨ k = 54 ∨ k = 55 ∨ k = 56 ∨ k = 57 ∨ k = 58 ∨ k = 59 ∨ k = 60 ∨ k = 61 ∨ k = 62 ∨ k = 63 ∨ k = 64 ∨ k = 65 ∨ k = 66 ∨ k = 67 ∨ k = 68 ∨ k = 69 ∨ k = 70 ∨ k = 71 ∨ k = 72 ∨ k = 73 by omega) with rfl | rfl | rfl | rfl | rfl | rfl | rfl | rfl | rfl | rfl | rfl | rfl | rfl | rfl | rfl | rfl | rfl | rfl | rfl | rfl | rfl | rfl | rfl | rfl | rfl | rfl | rfl | rfl | rfl | rfl | rfl | rfl | rfl | rfl | rfl | rfl | rfl | rfl | rfl | rfl | rfl | rfl | rfl | rfl | rfl | rfl | rfl | rfl | rfl | rfl | rfl | rfl | rfl | rfl | rfl | rfl | rfl | rfl | rfl | rfl | rfl | rfl | rfl | rfl | rfl | rfl | rfl | rfl | rfl | rfl | rfl | rfl | rfl | rfl <;> exact ⟨_, rfl⟩
set_option maxHeartbeats 4000000 in
set_option maxRecDepth 100000 in
theorem W_at (hP : va_P D vwCl (wKX10 c q0 u ++ wKX11 c q60 u') H) : va_P D vwCl (z_ws (adOf q0 q60 u u' b fm adK adV) (z_cAof c) I00) H := by
  intro k q hk
  obtain ⟨hk74, rfl⟩ := z_ws_at hk
  rcases (show k = 0 ∨ k = 1 ∨ k = 2 ∨ k = 3 ∨ k = 4 ∨ k = 5 ∨ k = 6 ∨ k = 7 ∨ k = 8 ∨ k = 9 ∨ k = 10 ∨ k = 11 ∨ k = 12 ∨ k = 13 ∨ k = 14 ∨ k = 15 ∨ k = 16 ∨ k = 17 ∨ k = 18 ∨ k = 19 ∨ k = 20 ∨ k = 21 ∨ k = 22 ∨ k = 23 ∨ k = 24 ∨ k = 25 ∨ k = 26 ∨ k = 27 ∨ k = 28 ∨ k = 29 ∨ k = 30 ∨ k = 31 ∨ k = 32 ∨ k = 33 ∨ k = 34 ∨ k = 35 ∨ k = 36 ∨ k = 37 ∨ k = 38 ∨ k = 39 ∨ k = 40 ∨ k = 41 ∨ k = 42 ∨ k = 43 ∨ k = 44 ∨ k = 45 ∨ k = 46 ∨ k = 47 ∨ k = 48 ∨ k = 49 ∨ k = 50 ∨ k = 51 ∨ k = 52 ∨ k = 53 ∨ k = 54 ∨ k = 55 ∨ k = 56 ∨ k = 57 ∨ k = 58 ∨ k = 59 ∨ k = 60 ∨ k = 61 ∨ k = 62 ∨ k = 63 ∨ k = 64 ∨ k = 65 ∨ k = 66 ∨ k = 67 ∨ k = 68 ∨ k = 69 ∨ k = 70 ∨ k = 71 ∨ k = 72 ∨ k = 73 by omega) with rfl | rfl | rfl | rfl | rfl | rfl | rfl | rfl | rfl | rfl | rfl | rfl | rfl | rfl | rfl | rfl | rfl | rfl | rfl | rfl | rfl | rfl | rfl | rfl | rfl | rfl | rfl | rfl | rfl | rfl | rfl | rfl | rfl | rfl | rfl | rfl | rfl | rfl | rfl | rfl | rfl | rfl | rfl | rfl | rfl | rfl | rfl | rfl | rfl | rfl | rfl | rfl | rfl | rfl | rfl | rfl | rfl | rfl | rfl | rfl | rfl | rfl | rfl | rfl | rfl | rfl | rfl | rfl | rfl | rfl | rfl | rfl | rfl | rfl
  · have e : z_ent (adOf q0 q60 u u' b fm adK adV) (z_cAof c) I00 0 = .inr (10, [.ref (adOf q0 q60 u u' b fm adK adV 1), .ref (adOf q0 q60 u u' b fm adK adV 8), .ref (adOf q0 q60 u u' b fm adK adV 19), .ref (adOf q0 q60 u u' b fm adK adV 30), .ref (adOf q0 q60 u u' b fm adK adV 53), .ref (adOf q0 q60 u u' b fm adK adV 54), .ref (adOf q0 q60 u u' b fm adK adV 57), .ref (adOf q0 q60 u u' b fm adK adV 59), .long (z_l 0), .long (z_l 1), .int (z_i 0), .int (z_i 0), .int (z_i 0)]) := rfl
    rw [e, z_i0, z_l0, z_l1]
    exact hP 0 _ rfl
  · have h9 := hP 1 _ rfl
    have h9 : H[u 1]? = some (arrV (c 3) 6 (fun j => va_rf ((va_up (va_up (va_up (va_up (va_up (va_up (fun _ => none) 0 (some (u 2))) 1 (some (u 3))) 2 (some (u 4))) 3 (some (u 5))) 4 (some (u 6))) 5 (some (u 7))) j))) := h9
    rw [z_ent_q (by decide)]
    show H[u 1]? = some (arrV (c 3) 6 (fun j => va_rf (some ((adOf q0 q60 u u' b fm adK adV) (z_rf 1 j)))))
    rw [h9]
    refine congrArg some (arrV_c (fun j hj => ?_))
    rcases (show j = 0 ∨ j = 1 ∨ j = 2 ∨ j = 3 ∨ j = 4 ∨ j = 5 by omega) with rfl | rfl | rfl | rfl | rfl | rfl <;> rfl
  · exact hP 2 _ rfl
  · exact hP 3 _ rfl
  · exact hP 4 _ rfl
  · exact hP 5 _ rfl
  · exact hP 6 _ rfl
  · exact hP 7 _ rfl
  · have e : z_ent (adOf q0 q60 u u' b fm adK adV) (z_cAof c) I00 8 = .inr (4, [.int (z_i 0), .int (z_i 0), .int (z_i 0), .int (z_i 0), .ref (adOf q0 q60 u u' b fm adK adV 9), .ref (adOf q0 q60 u u' b fm adK adV 10), .ref (adOf q0 q60 u u' b fm adK adV 11), .ref (adOf q0 q60 u u' b fm adK adV 12), .ref (adOf q0 q60 u u' b fm adK adV 13), .ref (adOf q0 q60 u u' b fm adK adV 14), .ref (adOf q0 q60 u u' b fm adK adV 15), .ref (adOf q0 q60 u u' b fm adK adV 16), .ref (adOf q0 q60 u u' b fm adK adV 17)]) := rfl
    rw [e, z_i0]
    exact hP 8 _ rfl
  · rw [z_ent0 (k := 9) (by decide) (by decide) (by decide)]
    exact hP 9 _ rfl
  · rw [z_ent0 (k := 10) (by decide) (by decide) (by decide)]
    exact hP 10 _ rfl
  · rw [z_ent0 (k := 11) (by decide) (by decide) (by decide)]
    exact hP 11 _ rfl
  · rw [z_ent0 (k := 12) (by decide) (by decide) (by decide)]
    exact hP 12 _ rfl
  · rw [z_ent0 (k := 13) (by decide) (by decide) (by decide)]
    exact hP 13 _ rfl
  · rw [z_ent0 (k := 14) (by decide) (by decide) (by decide)]
    exact hP 14 _ rfl
  · rw [z_ent0 (k := 15) (by decide) (by decide) (by decide)]
    exact hP 15 _ rfl
  · rw [z_ent0 (k := 16) (by decide) (by decide) (by decide)]
    exact hP 16 _ rfl
  · have e : z_ent (adOf q0 q60 u u' b fm adK adV) (z_cAof c) I00 17 = .inr (5, [.int (z_i 0), .int (z_i 0), .ref (adOf q0 q60 u u' b fm adK adV 18)]) := rfl
    rw [e, z_i0]
    exact hP 17 _ rfl
  · rw [z_ent0 (k := 18) (by decide) (by decide) (by decide)]
    exact hP 18 _ rfl
  · have e : z_ent (adOf q0 q60 u u' b fm adK adV) (z_cAof c) I00 19 = .inr (4, [.int (z_i 0), .int (z_i 0), .int (z_i 0), .int (z_i 0), .ref (adOf q0 q60 u u' b fm adK adV 20), .ref (adOf q0 q60 u u' b fm adK adV 21), .ref (adOf q0 q60 u u' b fm adK adV 22), .ref (adOf q0 q60 u u' b fm adK adV 23), .ref (adOf q0 q60 u u' b fm adK adV 24), .ref (adOf q0 q60 u u' b fm adK adV 25), .ref (adOf q0 q60 u u' b fm adK adV 26), .ref (adOf q0 q60 u u' b fm adK adV 27), .ref (adOf q0 q60 u u' b fm adK adV 28)]) := rfl
    rw [e, z_i0]
    exact hP 19 _ rfl
  · rw [z_ent0 (k := 20) (by decide) (by decide) (by decide)]
    exact hP 20 _ rfl
  · rw [z_ent0 (k := 21) (by decide) (by decide) (by decide)]
    exact hP 21 _ rfl
  · rw [z_ent0 (k := 22) (by decide) (by decide) (by decide)]
    exact hP 22 _ rfl
  · rw [z_ent0 (k := 23) (by decide) (by decide) (by decide)]
    exact hP 23 _ rfl
  · rw [z_ent0 (k := 24) (by decide) (by decide) (by decide)]
    exact hP 24 _ rfl
  · rw [z_ent0 (k := 25) (by decide) (by decide) (by decide)]
    exact hP 25 _ rfl
  · rw [z_ent0 (k := 26) (by decide) (by decide) (by decide)]
    exact hP 26 _ rfl
  · rw [z_ent0 (k := 27) (by decide) (by decide) (by decide)]
    exact hP 27 _ rfl
  · have e : z_ent (adOf q0 q60 u u' b fm adK adV) (z_cAof c) I00 28 = .inr (5, [.int (z_i 0), .int (z_i 0), .ref (adOf q0 q60 u u' b fm adK adV 29)]) := rfl
    rw [e, z_i0]
    exact hP 28 _ rfl
  · rw [z_ent0 (k := 29) (by decide) (by decide) (by decide)]
    exact hP 29 _ rfl
  · have h9 := hP 30 _ rfl
    have h9 : H[u 30]? = some (arrV (c 4) 2 (fun j => va_rf ((va_up (va_up (fun _ => none) 0 (some (u 31))) 1 (some (u 42))) j))) := h9
    rw [z_ent_q (by decide)]
    show H[u 30]? = some (arrV (c 4) 2 (fun j => va_rf (some ((adOf q0 q60 u u' b fm adK adV) (z_rf 30 j)))))
    rw [h9]
    refine congrArg some (arrV_c (fun j hj => ?_))
    rcases (show j = 0 ∨ j = 1 by omega) with rfl | rfl <;> rfl
  · have e : z_ent (adOf q0 q60 u u' b fm adK adV) (z_cAof c) I00 31 = .inr (4, [.int (z_i 0), .int (z_i 0), .int (z_i 0), .int (z_i 0), .ref (adOf q0 q60 u u' b fm adK adV 32), .ref (adOf q0 q60 u u' b fm adK adV 33), .ref (adOf q0 q60 u u' b fm adK adV 34), .ref (adOf q0 q60 u u' b fm adK adV 35), .ref (adOf q0 q60 u u' b fm adK adV 36), .ref (adOf q0 q60 u u' b fm adK adV 37), .ref (adOf q0 q60 u u' b fm adK adV 38), .ref (adOf q0 q60 u u' b fm adK adV 39), .ref (adOf q0 q60 u u' b fm adK adV 40)]) := rfl
    rw [e, z_i0]
    exact hP 31 _ rfl
  · rw [z_ent0 (k := 32) (by decide) (by decide) (by decide)]
    exact hP 32 _ rfl
  · rw [z_ent0 (k := 33) (by decide) (by decide) (by decide)]
    exact hP 33 _ rfl
  · rw [z_ent0 (k := 34) (by decide) (by decide) (by decide)]
    exact hP 34 _ rfl
  · rw [z_ent0 (k := 35) (by decide) (by decide) (by decide)]
    exact hP 35 _ rfl
  · rw [z_ent0 (k := 36) (by decide) (by decide) (by decide)]
    exact hP 36 _ rfl
  · rw [z_ent0 (k := 37) (by decide) (by decide) (by decide)]
    exact hP 37 _ rfl
  · rw [z_ent0 (k := 38) (by decide) (by decide) (by decide)]
    exact hP 38 _ rfl
  · rw [z_ent0 (k := 39) (by decide) (by decide) (by decide)]
    exact hP 39 _ rfl
  · have e : z_ent (adOf q0 q60 u u' b fm adK adV) (z_cAof c) I00 40 = .inr (5, [.int (z_i 0), .int (z_i 0), .ref (adOf q0 q60 u u' b fm adK adV 41)]) := rfl
    rw [e, z_i0]
    exact hP 40 _ rfl
  · rw [z_ent0 (k := 41) (by decide) (by decide) (by decide)]
    exact hP 41 _ rfl
  · have e : z_ent (adOf q0 q60 u u' b fm adK adV) (z_cAof c) I00 42 = .inr (4, [.int (z_i 0), .int (z_i 0), .int (z_i 0), .int (z_i 0), .ref (adOf q0 q60 u u' b fm adK adV 43), .ref (adOf q0 q60 u u' b fm adK adV 44), .ref (adOf q0 q60 u u' b fm adK adV 45), .ref (adOf q0 q60 u u' b fm adK adV 46), .ref (adOf q0 q60 u u' b fm adK adV 47), .ref (adOf q0 q60 u u' b fm adK adV 48), .ref (adOf q0 q60 u u' b fm adK adV 49), .ref (adOf q0 q60 u u' b fm adK adV 50), .ref (adOf q0 q60 u u' b fm adK adV 51)]) := rfl
    rw [e, z_i0]
    exact hP 42 _ rfl
  · rw [z_ent0 (k := 43) (by decide) (by decide) (by decide)]
    exact hP 43 _ rfl
  · rw [z_ent0 (k := 44) (by decide) (by decide) (by decide)]
    exact hP 44 _ rfl
  · rw [z_ent0 (k := 45) (by decide) (by decide) (by decide)]
    exact hP 45 _ rfl
  · rw [z_ent0 (k := 46) (by decide) (by decide) (by decide)]
    exact hP 46 _ rfl
  · rw [z_ent0 (k := 47) (by decide) (by decide) (by decide)]
    exact hP 47 _ rfl
  · rw [z_ent0 (k := 48) (by decide) (by decide) (by decide)]
    exact hP 48 _ rfl
  · rw [z_ent0 (k := 49) (by decide) (by decide) (by decide)]
    exact hP 49 _ rfl
  · rw [z_ent0 (k := 50) (by decide) (by decide) (by decide)]
    exact hP 50 _ rfl
  · have e : z_ent (adOf q0 q60 u u' b fm adK adV) (z_cAof c) I00 51 = .inr (5, [.int (z_i 0), .int (z_i 0), .ref (adOf q0 q60 u u' b fm adK adV 52)]) := rfl
    rw [e, z_i0]
    exact hP 51 _ rfl
  · rw [z_ent0 (k := 52) (by decide) (by decide) (by decide)]
    exact hP 52 _ rfl
  · rw [z_ent0 (k := 53) (by decide) (by decide) (by decide)]
    exact hP 53 _ rfl
  · have e : z_ent (adOf q0 q60 u u' b fm adK adV) (z_cAof c) I00 54 = .inr (8, [.int (z_i 0), .ref (adOf q0 q60 u u' b fm adK adV 55), .ref (adOf q0 q60 u u' b fm adK adV 56), .int (z_i 0), .int (z_i 0), .int (z_i 0), .int (z_i 0)]) := rfl
    rw [e, z_i0]
    exact hP 54 _ rfl
  · rw [z_ent0 (k := 55) (by decide) (by decide) (by decide)]
    exact hP 55 _ rfl
  · rw [z_ent0 (k := 56) (by decide) (by decide) (by decide)]
    exact hP 56 _ rfl
  · have e : z_ent (adOf q0 q60 u u' b fm adK adV) (z_cAof c) I00 57 = .inr (9, [.int (z_i 0), .int (z_i 0), .ref (adOf q0 q60 u u' b fm adK adV 58)]) := rfl
    rw [e, z_i0]
    exact hP 57 _ rfl
  · rw [z_ent0 (k := 58) (by decide) (by decide) (by decide)]
    exact hP 58 _ rfl
  · rw [z_ent0 (k := 59) (by decide) (by decide) (by decide)]
    exact hP 59 _ rfl
  · have e : z_ent (adOf q0 q60 u u' b fm adK adV) (z_cAof c) I00 60 = .inr (11, [.ref (adOf q0 q60 u u' b fm adK adV 61), .ref (adOf q0 q60 u u' b fm adK adV 62), .ref (adOf q0 q60 u u' b fm adK adV 63), .ref (adOf q0 q60 u u' b fm adK adV 64), .long (z_l 0), .long (z_l 1), .int (z_i 0), .ref (adOf q0 q60 u u' b fm adK adV 65), .ref (adOf q0 q60 u u' b fm adK adV 66), .ref (adOf q0 q60 u u' b fm adK adV 67), .ref (adOf q0 q60 u u' b fm adK adV 68), .ref (adOf q0 q60 u u' b fm adK adV 69), .int (z_i 0), .int (z_i 0), .ref (adOf q0 q60 u u' b fm adK adV 70), .ref (adOf q0 q60 u u' b fm adK adV 71), .int (z_i 0), .int (z_i 0), .int (z_i 0), .int (z_i 0), .int (z_i 0), .ref (adOf q0 q60 u u' b fm adK adV 72), .ref (adOf q0 q60 u u' b fm adK adV 73)]) := rfl
    rw [e, z_i0, z_l0, z_l1]
    exact hP 60 _ rfl
  · rw [z_ent0 (k := 61) (by decide) (by decide) (by decide)]
    exact hP 61 _ rfl
  · rw [z_ent0 (k := 62) (by decide) (by decide) (by decide)]
    exact hP 62 _ rfl
  · rw [z_ent0 (k := 63) (by decide) (by decide) (by decide)]
    exact hP 63 _ rfl
  · rw [z_ent0 (k := 64) (by decide) (by decide) (by decide)]
    exact hP 64 _ rfl
  · rw [z_ent0 (k := 65) (by decide) (by decide) (by decide)]
    exact hP 65 _ rfl
  · rw [z_ent0 (k := 66) (by decide) (by decide) (by decide)]
    exact hP 66 _ rfl
  · rw [z_ent0 (k := 67) (by decide) (by decide) (by decide)]
    exact hP 67 _ rfl
  · rw [z_ent0 (k := 68) (by decide) (by decide) (by decide)]
    exact hP 68 _ rfl
  · rw [z_ent0 (k := 69) (by decide) (by decide) (by decide)]
    exact hP 69 _ rfl
  · rw [z_ent0 (k := 70) (by decide) (by decide) (by decide)]
    exact hP 70 _ rfl
  · rw [z_ent0 (k := 71) (by decide) (by decide) (by decide)]
    exact hP 71 _ rfl
  · rw [z_ent0 (k := 72) (by decide) (by decide) (by decide)]
    exact hP 72 _ rfl
  · rw [z_ent0 (k := 73) (by decide) (by decide) (by decide)]
    exact hP 73 _ rfl
theorem W_ok (hD : va_D A (wKX10 c q0 u ++ wKX11 c q60 u')) : (∀ i j, i < 74 → j < 74 → adOf q0 q60 u u' b fm adK adV i = adOf q0 q60 u u' b fm adK adV j → i = j) ∧ ∀ k, k < 74 → A (adOf q0 q60 u u' b fm adK adV k) := by
  refine ⟨fun i j hi hj e => ?_, fun k hk => ?_⟩
  · obtain ⟨x, hx⟩ := W_k (c := c) (q0 := q0) (q60 := q60) (u := u) (u' := u') (b := b) (fm := fm) (adK := adK) (adV := adV) i hi
    obtain ⟨y, hy⟩ := W_k (c := c) (q0 := q0) (q60 := q60) (u := u) (u' := u') (b := b) (fm := fm) (adK := adK) (adV := adV) j hj
    exact hD.1 i j _ _ hx hy e
  · obtain ⟨x, hx⟩ := W_k (c := c) (q0 := q0) (q60 := q60) (u := u) (u' := u') (b := b) (fm := fm) (adK := adK) (adV := adV) k hk
    exact hD.2 k _ hx
theorem K_at {s : State} (hK : va_K D vwCl (T5 c) s) : va_K D vwCl (z_tys (z_cAof c)) s := by
  refine ⟨hK.1, fun k q hk => ?_⟩
  have hk74 : k < 74 := by
    have := (List.getElem?_eq_some_iff.mp hk).1
    simpa [z_tys] using this
  rw [z_tys_get hk74] at hk
  obtain rfl := Option.some.inj hk
  unfold z_cAof z_ty
  dsimp only
  by_cases h1 : z_cl k = 21
  · rw [if_pos h1, if_pos h1]
    exact hK.2 1 _ rfl
  · rw [if_neg h1, if_neg h1]
    by_cases h2 : z_cl k = 22
    · rw [if_pos h2, if_pos h2]
      exact hK.2 2 _ rfl
    · rw [if_neg h2, if_neg h2]
      by_cases h3 : z_cl k = 23
      · rw [if_pos h3, if_pos h3]
        exact hK.2 4 _ rfl
      · rw [if_neg h3, if_neg h3]
        by_cases h4 : z_cl k = 24
        · rw [if_pos h4, if_pos h4]
          exact hK.2 3 _ rfl
        · rw [if_neg h4, if_neg h4]
          exact hK.2 0 _ rfl
end QU
