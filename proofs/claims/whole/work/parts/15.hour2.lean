/-! letHourGoBy -/
section SI
variable {I : z_M} {b : Nat} {A : Nat → Int} {P L : Nat} {hr : Int} {K W Y tn : Nat → Int} {p : Nat}
theorem s4_sendOut {Q : z_M → Prop} (hb : z_cl b = 4) (hp : p < P) (hW : W p = -1) (hA : wfA A P L) (hI : stC I b A P L hr K W Y tn) (hS : wfS P L K W Y)
    (h : ∀ I', stC I' b A P L hr K (zu W p (pFor A P L hr W tn p)) Y tn → (∀ k, k ≠ b + 4 → k ≠ b + 5 → I' k = I k) → Q I') : CX4_sendOut [aR b, aI p] I Q := by
  obtain ⟨o1, o2, o3, o4, o5, o6, o7, o8, o9, o10, n1, n2, n3, n4, n5, n6, n7, n8, n10⟩ := z_o hb
  obtain ⟨a0, a1, a2, a3, a4, a5⟩ := id hA
  obtain ⟨i0, i1, i2, i3, i4⟩ := id hI
  have hn := (i4 p hp).2.1
  have hY := (hS p hp).2.2 hW
  refine eX4_sendOut ?_
  refine X4_sendOut_0 (k := ?_)
  refine X4_sendOut_1 (k := ?_)
  refine X4_sendOut_4 (k := ?_)
  refine X4_sendOut_5 (k := ?_)
  simp only [Int.toNat_natCast, hn]
  refine X4_sendOut_6 (k := ?_)
  refine X4_sendOut_8 (k := ?_)
  refine X4_sendOut_9 (k := ?_)
  refine X4_sendOut_10 (k := ?_)
  refine X4_sendOut_11 (k := ?_)
  refine z_for L (fun x => z_any (fun x => decide (tn x = (A (30 + 4 * p + 1)).tmod 12) && (pWish A hr x && !pTaken P W x)) x = false → JX4_sendOut Q 12 [aR b, aI p, aI ((A (30 + 4 * p + 1)).tmod 12), aI x] [] I) ?_ (fun x hx ih => ?_) 0 (Nat.zero_le _) rfl
  · intro hz
    refine X4_sendOut_12 (k := ?_)
    refine X4_sendOut_13 (k := ?_)
    refine X4_sendOut_14 (k := ?_)
    refine X4_sendOut_17 (kt := fun k17 => ?_) (kf := fun k17 => ?_)
    · refine X4_sendOut_66 (hq := ?_)
      have e : pFor A P L hr W tn p = -1 := z_fst_none hz
      refine h I (stC_eq hI fun q hq => ⟨?_, rfl⟩) (fun k _ _ => rfl)
      rw [e]
      unfold zu
      split
      · rename_i z; rw [z, hW]
      · rfl
    · omega
  · intro hz
    have nx : (decide (tn x = (A (30 + 4 * p + 1)).tmod 12) && (pWish A hr x && !pTaken P W x)) = false → JX4_sendOut Q 60 [aR b, aI p, aI ((A (30 + 4 * p + 1)).tmod 12), aI x] [] I := by
      intro hn
      refine X4_sendOut_60 (k := ?_)
      refine X4_sendOut_63 (k := ?_)
      refine ih ?_
      rw [z_any, hz, hn]
      rfl
    refine X4_sendOut_12 (k := ?_)
    refine X4_sendOut_13 (k := ?_)
    refine X4_sendOut_14 (k := ?_)
    refine X4_sendOut_17 (kt := fun k17 => ?_) (kf := fun k17 => ?_)
    · omega
    · refine X4_sendOut_20 (k := ?_)
      refine X4_sendOut_21 (k := ?_)
      refine X4_sendOut_22 (k := ?_)
      refine s4_toneWishedAt hb hx hA hI ?_
      refine X4_sendOut_25 (k := ?_)
      refine X4_sendOut_26 (kt := fun k26 => ?_) (kf := fun k26 => ?_)
      · exact nx (by rw [decide_eq_false k26]; rfl)
      · refine X4_sendOut_29 (k := ?_)
        refine X4_sendOut_30 (k := ?_)
        refine X4_sendOut_31 (k := ?_)
        refine s4_isWished hb hx hA hI (fun z => ?_) (fun z => ?_)
        · refine X4_sendOut_34 (kt := fun k34 => ?_) (kf := fun k34 => ?_)
          · omega
          · refine X4_sendOut_37 (k := ?_)
            refine X4_sendOut_38 (k := ?_)
            refine X4_sendOut_39 (k := ?_)
            refine s4_pipesAt hb hA hI ?_
            have eT : pTaken P W x = z_any (fun o => decide (W o = (x : Int))) P := rfl
            refine X4_sendOut_42 (kt := fun k42 => ?_) (kf := fun k42 => ?_)
            · refine nx ?_
              have : pTaken P W x = true := by
                cases e : pTaken P W x with
                | true => rfl
                | false =>
                  rw [eT, ← z_bs_0] at e
                  rw [e] at k42
                  exact absurd rfl k42
              rw [this]
              simp
            · refine X4_sendOut_45 (k := ?_)
              refine X4_sendOut_46 (k := ?_)
              refine X4_sendOut_49 (k := ?_)
              refine X4_sendOut_50 (k := ?_)
              refine X4_sendOut_51 (k := ?_)
              refine X4_sendOut_52 (k := ?_)
              refine X4_sendOut_53 (k := ?_)
              refine X4_sendOut_56 (k := ?_)
              refine X4_sendOut_57 (k := ?_)
              refine X4_sendOut_58 (k := ?_)
              refine X4_sendOut_59 (hq := ?_)
              have e0 : z_bs (fun p => decide (W p = (x : Int))) P = 0 := by omega
              have e1 : pTaken P W x = false := by rw [eT, ← z_bs_0]; exact e0
              have e : pFor A P L hr W tn p = x := z_fst_hit hz (by rw [z, e1, decide_eq_true (by omega)]; rfl) hx
              simp only [Int.toNat_natCast]
              rw [e] at h
              refine h _ (stC_eq (stC_y (stC_w hI p x) p 0) fun q hq => ⟨rfl, ?_⟩) (fun k k1 k2 => by rw [z_up_n k2, z_up_n k1])
              unfold zu
              split
              · rename_i z; rw [z, hY]
              · rfl
        · refine X4_sendOut_34 (kt := fun k34 => ?_) (kf := fun k34 => ?_)
          · exact nx (by rw [z]; simp)
          · omega
theorem s4_letHourGoBy {Q : z_M → Prop} (hb : z_cl b = 4) (hA : wfA A P L) (hS : wfS P L K W Y) (hI : stC I b A P L hr K W Y tn)
    (h : ∀ I', stC I' b A P L (pHour A P L K tn (hr, W, Y)).1 K (pHour A P L K tn (hr, W, Y)).2.1 (pHour A P L K tn (hr, W, Y)).2.2 tn → (∀ k, k ≠ b → k ≠ b + 4 → k ≠ b + 5 → I' k = I k) → (∀ j, j ≠ 0 → I' b j = I b j) → Q I') : CX4_letHourGoBy [aR b, aR 1] I Q := by
  obtain ⟨o1, o2, o3, o4, o5, o6, o7, o8, o9, o10, n1, n2, n3, n4, n5, n6, n7, n8, n10⟩ := z_o hb
  obtain ⟨a0, a1, a2, a3, a4, a5⟩ := id hA
  refine eX4_letHourGoBy ?_
  refine X4_letHourGoBy_0 (k := ?_)
  refine X4_letHourGoBy_1 (k := ?_)
  refine X4_letHourGoBy_2 (k := ?_)
  refine X4_letHourGoBy_5 (k := ?_)
  refine X4_letHourGoBy_6w (k := ?_)
  refine X4_letHourGoBy_7 (k := ?_)
  refine X4_letHourGoBy_10 (k := ?_)
  refine X4_letHourGoBy_11 (k := ?_)
  rw [hI.1]
  refine z_for P (fun i => ∀ I', stC I' b A P L (i32 (hr + 1)) K (pTurns A P L (i32 (hr + 1)) K tn (W, Y) i).1 (pTurns A P L (i32 (hr + 1)) K tn (W, Y) i).2 tn → (∀ k, k ≠ b → k ≠ b + 4 → k ≠ b + 5 → I' k = I k) → (∀ j, j ≠ 0 → I' b j = I b j) → JX4_letHourGoBy Q 12 [aR b, aR 1, aI i, aU] [] I') ?_ (fun i hi ih => ?_) 0 (Nat.zero_le _) _ (stC_h hI _) (fun k k1 _ _ => by rw [z_up_n k1]) (fun j hj => by rw [z_up_s, zu_n hj])
  · intro I' hI' hf hf0
    obtain ⟨i0, i1, i2, i3, i4⟩ := id hI'
    refine X4_letHourGoBy_12 (k := ?_)
    refine X4_letHourGoBy_13 (k := ?_)
    refine X4_letHourGoBy_14 (k := ?_)
    refine X4_letHourGoBy_17 (kt := fun k17 => ?_) (kf := fun k17 => ?_)
    · refine X4_letHourGoBy_84 (hq := ?_)
      exact h I' hI' hf hf0
    · omega
  · intro I' hI' hf hf0
    obtain ⟨i0, i1, i2, i3, i4⟩ := id hI'
    have hS' := wfS_turns (A := A) (hr := i32 (hr + 1)) (tn := tn) (s := (W, Y)) hS i
    have hsn : pTurns A P L (i32 (hr + 1)) K tn (W, Y) (i + 1) = pStep A P L (i32 (hr + 1)) K tn i (pTurns A P L (i32 (hr + 1)) K tn (W, Y) i) := rfl
    generalize pTurns A P L (i32 (hr + 1)) K tn (W, Y) i = s at hI' hS' hsn i4
    rw [hsn] at ih
    obtain ⟨w, y⟩ := s
    dsimp only at hI' hS' i4
    have fin : ∀ (r : z_V) I'', stC I'' b A P L (i32 (hr + 1)) K (pStep A P L (i32 (hr + 1)) K tn i (w, y)).1 (pStep A P L (i32 (hr + 1)) K tn i (w, y)).2 tn → (∀ k, k ≠ b → k ≠ b + 4 → k ≠ b + 5 → I'' k = I k) → (∀ j, j ≠ 0 → I'' b j = I b j) → JX4_letHourGoBy Q 78 [aR b, aR 1, aI i, r] [] I'' := by
      intro r I'' h1 h2 h3
      refine X4_letHourGoBy_78 (k := ?_)
      refine X4_letHourGoBy_81 (k := ?_)
      refine lX4_letHourGoBy (ls' := [aR b, aR 1, aI ((i + 1 : Nat) : Int), aU]) (ih I'' h1 h2 h3) ?_
      intro j v hj hv
      match j, hj with
      | 0, hj => exact hj
      | 1, hj => exact hj
      | 2, hj => exact hj
      | 3, hj => exact absurd (Option.some.inj hj).symm hv
    have hw := (i4 i hi).2.2.1
    have hy := (i4 i hi).2.2.2
    refine X4_letHourGoBy_12 (k := ?_)
    refine X4_letHourGoBy_13 (k := ?_)
    refine X4_letHourGoBy_14 (k := ?_)
    refine X4_letHourGoBy_17 (kt := fun k17 => ?_) (kf := fun k17 => ?_)
    · omega
    · refine X4_letHourGoBy_20 (k := ?_)
      refine X4_letHourGoBy_21 (k := ?_)
      refine X4_letHourGoBy_22 (k := ?_)
      refine X4_letHourGoBy_23 (k := ?_)
      refine s4_ruleOf hb hi hA hS' hI' ?_
      refine X4_letHourGoBy_26 (k := ?_)
      refine X4_letHourGoBy_27 (k := ?_)
      refine X4_letHourGoBy_28 (k := ?_)
      refine X4_letHourGoBy_31 (k := ?_)
      refine X4_letHourGoBy_32 (k := ?_)
      simp only [Int.toNat_natCast, hw]
      refine X4_letHourGoBy_33 (k := ?_)
      refine X4_letHourGoBy_34 (kt := fun k34 => ?_) (kf := fun k34 => ?_)
      · refine X4_letHourGoBy_54 (k := ?_)
        refine X4_letHourGoBy_55 (k := ?_)
        refine X4_letHourGoBy_58 (k := ?_)
        refine X4_letHourGoBy_59 (k := ?_)
        refine X4_letHourGoBy_60 (k := ?_)
        simp only [Int.toNat_natCast, hy]
        refine X4_letHourGoBy_61 (k := ?_)
        refine X4_letHourGoBy_62w (k := ?_)
        refine X4_letHourGoBy_63 (k := ?_)
        refine X4_letHourGoBy_64 (k := ?_)
        refine X4_letHourGoBy_65 (k := ?_)
        refine X4_letHourGoBy_66 (k := ?_)
        have hI2 := stC_y hI' i (i32 (y i + 1))
        have hS2 : wfS P L K w (zu y i (i32 (y i + 1))) := by
          intro q hq
          obtain ⟨g1, g2, g3⟩ := hS' q hq
          refine ⟨g1, g2, fun z => ?_⟩
          by_cases e : q = i
          · rw [e] at z; exact absurd z k34
          · rw [zu_n e]; exact g3 z
        refine d4_comesBack hb hi k34 hA hS2 hI2 (fun z => ?_) (fun z => ?_)
        · refine X4_letHourGoBy_70 (kt := fun k70 => ?_) (kf := fun k70 => ?_)
          · omega
          · refine X4_letHourGoBy_73 (k := ?_)
            refine X4_letHourGoBy_74 (k := ?_)
            refine X4_letHourGoBy_75 (k := ?_)
            refine s4_bringHome hb (by omega) ?_
            refine fin _ _ ?_ (fun k k1 k2 k3 => by rw [z_up_n k3, z_up_n k2, z_up_n k3]; exact hf k k1 k2 k3) (fun j hj => by rw [z_up_n (by omega), z_up_n (by omega), z_up_n (by omega)]; exact hf0 j hj)
            have e : pStep A P L (i32 (hr + 1)) K tn i (w, y) = (zu w i (-1), zu (zu y i (i32 (y i + 1))) i 0) := by
              unfold pStep
              rw [if_neg k34, if_pos z]
            rw [e]
            exact stC_y (stC_w hI2 i (-1)) i 0
        · refine X4_letHourGoBy_70 (kt := fun k70 => ?_) (kf := fun k70 => ?_)
          · have e : pStep A P L (i32 (hr + 1)) K tn i (w, y) = (w, zu y i (i32 (y i + 1))) := by
              unfold pStep
              rw [if_neg k34, if_neg (by rw [z]; decide)]
            refine fin _ _ ?_ (fun k k1 k2 k3 => by rw [z_up_n k3]; exact hf k k1 k2 k3) (fun j hj => by rw [z_up_n (by omega)]; exact hf0 j hj)
            rw [e]
            exact hI2
          · omega
      · refine X4_letHourGoBy_37 (k := ?_)
        refine X4_letHourGoBy_38 (k := ?_)
        refine X4_letHourGoBy_39 (k := ?_)
        refine d4_mayGo hb hi hA hS' hI' (fun z => ?_) (fun z => ?_)
        · refine X4_letHourGoBy_43 (kt := fun k43 => ?_) (kf := fun k43 => ?_)
          · omega
          · refine X4_letHourGoBy_46 (k := ?_)
            refine X4_letHourGoBy_47 (k := ?_)
            refine X4_letHourGoBy_48 (k := ?_)
            refine s4_sendOut hb hi k34 hA hI' hS' (fun I2 h2 hf2 => ?_)
            refine X4_letHourGoBy_51 (k := ?_)
            have e : pStep A P L (i32 (hr + 1)) K tn i (w, y) = (zu w i (pFor A P L (i32 (hr + 1)) w tn i), y) := by
              unfold pStep
              rw [if_pos k34, if_pos z]
            refine fin _ _ ?_ (fun k k1 k2 k3 => by rw [hf2 k k2 k3]; exact hf k k1 k2 k3) (fun j hj => by rw [hf2 b (by omega) (by omega)]; exact hf0 j hj)
            rw [e]
            exact h2
        · refine X4_letHourGoBy_43 (kt := fun k43 => ?_) (kf := fun k43 => ?_)
          · have e : pStep A P L (i32 (hr + 1)) K tn i (w, y) = (w, y) := by
              unfold pStep
              rw [if_pos k34, if_neg (by rw [z]; decide)]
            refine fin _ _ ?_ hf hf0
            rw [e]
            exact hI'
          · omega
end SI
