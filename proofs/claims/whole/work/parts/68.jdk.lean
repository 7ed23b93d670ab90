/-! strings: the JDK's own methods, by contract -/
section QJ
variable {I I' : z_M} {st : List z_V}
def qJ_0 : Room := { frames := 0, cells := 0, slots := 0, locals := 0 }
def qJ_ck : Room := { frames := 1, cells := 0, slots := 0, locals := 22 }
def qJ_l1 : Room := { frames := 2, cells := 0, slots := 0, locals := 43 }
theorem pdJ_coder : yJ0_coder_7d493.cls ≠ "java/lang/invoke/MethodHandle" ∧ yJ0_coder_7d493.cls ≠ "java/lang/invoke/VarHandle" ∧ (parseMethodDescriptor yJ0_coder_7d493.desc).map (fun d => d.parameters.length) = some 0 := by decide +kernel
theorem pdJ_latin : yJ0_isLatin1_aae02.cls ≠ "java/lang/invoke/MethodHandle" ∧ yJ0_isLatin1_aae02.cls ≠ "java/lang/invoke/VarHandle" ∧ (parseMethodDescriptor yJ0_isLatin1_aae02.desc).map (fun d => d.parameters.length) = some 0 := by decide +kernel
theorem pdJ_ck0 : yJ0_checkIndex_df160.cls ≠ "java/lang/invoke/MethodHandle" ∧ yJ0_checkIndex_df160.cls ≠ "java/lang/invoke/VarHandle" ∧ (parseMethodDescriptor yJ0_checkIndex_df160.desc).map (fun d => d.parameters.length) = some 2 := by decide +kernel
theorem pdJ_ck3 : yJ3_checkIndex_8e157.cls ≠ "java/lang/invoke/MethodHandle" ∧ yJ3_checkIndex_8e157.cls ≠ "java/lang/invoke/VarHandle" ∧ (parseMethodDescriptor yJ3_checkIndex_8e157.desc).map (fun d => d.parameters.length) = some 3 := by decide +kernel
theorem pdJ_c1 : yJ1_charAt_3b067.cls ≠ "java/lang/invoke/MethodHandle" ∧ yJ1_charAt_3b067.cls ≠ "java/lang/invoke/VarHandle" ∧ (parseMethodDescriptor yJ1_charAt_3b067.desc).map (fun d => d.parameters.length) = some 2 := by decide +kernel
theorem dJco_0 : decode cJ0_coder_7d493 0 = .ok (.getstatic 38, 3) := by decide +kernel
theorem dJco_3 : decode cJ0_coder_7d493 3 = .ok (.ifCond .eq 10, 3) := by decide +kernel
theorem dJco_6 : decode cJ0_coder_7d493 6 = .ok (.aload_n 0, 1) := by decide +kernel
theorem dJco_7 : decode cJ0_coder_7d493 7 = .ok (.getfield 15, 3) := by decide +kernel
theorem dJco_10 : decode cJ0_coder_7d493 10 = .ok (.goto 4, 3) := by decide +kernel
theorem dJco_14 : decode cJ0_coder_7d493 14 = .ok (.ireturn, 1) := by decide +kernel
theorem dJla_0 : decode cJ0_isLatin1_aae02 0 = .ok (.getstatic 38, 3) := by decide +kernel
theorem dJla_3 : decode cJ0_isLatin1_aae02 3 = .ok (.ifCond .eq 14, 3) := by decide +kernel
theorem dJla_6 : decode cJ0_isLatin1_aae02 6 = .ok (.aload_n 0, 1) := by decide +kernel
theorem dJla_7 : decode cJ0_isLatin1_aae02 7 = .ok (.getfield 15, 3) := by decide +kernel
theorem dJla_10 : decode cJ0_isLatin1_aae02 10 = .ok (.ifCond .ne 7, 3) := by decide +kernel
theorem dJla_13 : decode cJ0_isLatin1_aae02 13 = .ok (.iconst 1, 1) := by decide +kernel
theorem dJla_14 : decode cJ0_isLatin1_aae02 14 = .ok (.goto 4, 3) := by decide +kernel
theorem dJla_18 : decode cJ0_isLatin1_aae02 18 = .ok (.ireturn, 1) := by decide +kernel
theorem dJle_0 : decode cJ0_length_8abf5 0 = .ok (.aload_n 0, 1) := by decide +kernel
theorem dJle_1 : decode cJ0_length_8abf5 1 = .ok (.getfield 9, 3) := by decide +kernel
theorem dJle_4 : decode cJ0_length_8abf5 4 = .ok (.arraylength, 1) := by decide +kernel
theorem dJle_5 : decode cJ0_length_8abf5 5 = .ok (.aload_n 0, 1) := by decide +kernel
theorem dJle_6 : decode cJ0_length_8abf5 6 = .ok (.invokevirtual 335, 3) := by decide +kernel
theorem dJle_9 : decode cJ0_length_8abf5 9 = .ok (.ishr, 1) := by decide +kernel
theorem dJle_10 : decode cJ0_length_8abf5 10 = .ok (.ireturn, 1) := by decide +kernel
theorem dJk3_0 : decode cJ3_checkIndex_8e157 0 = .ok (.iload_n 0, 1) := by decide +kernel
theorem dJk3_1 : decode cJ3_checkIndex_8e157 1 = .ok (.ifCond .lt 8, 3) := by decide +kernel
theorem dJk3_4 : decode cJ3_checkIndex_8e157 4 = .ok (.iload_n 0, 1) := by decide +kernel
theorem dJk3_5 : decode cJ3_checkIndex_8e157 5 = .ok (.iload_n 1, 1) := by decide +kernel
theorem dJk3_6 : decode cJ3_checkIndex_8e157 6 = .ok (.if_icmp .lt 10, 3) := by decide +kernel
theorem dJk3_16 : decode cJ3_checkIndex_8e157 16 = .ok (.iload_n 0, 1) := by decide +kernel
theorem dJk3_17 : decode cJ3_checkIndex_8e157 17 = .ok (.ireturn, 1) := by decide +kernel
theorem dJk0_0 : decode cJ0_checkIndex_df160 0 = .ok (.iload_n 0, 1) := by decide +kernel
theorem dJk0_1 : decode cJ0_checkIndex_df160 1 = .ok (.iload_n 1, 1) := by decide +kernel
theorem dJk0_2 : decode cJ0_checkIndex_df160 2 = .ok (.getstatic 1053, 3) := by decide +kernel
theorem dJk0_5 : decode cJ0_checkIndex_df160 5 = .ok (.invokestatic 1059, 3) := by decide +kernel
theorem dJk0_8 : decode cJ0_checkIndex_df160 8 = .ok (.pop, 1) := by decide +kernel
theorem dJk0_9 : decode cJ0_checkIndex_df160 9 = .ok (.return_, 1) := by decide +kernel
theorem dJc1_0 : decode cJ1_charAt_3b067 0 = .ok (.iload_n 1, 1) := by decide +kernel
theorem dJc1_1 : decode cJ1_charAt_3b067 1 = .ok (.aload_n 0, 1) := by decide +kernel
theorem dJc1_2 : decode cJ1_charAt_3b067 2 = .ok (.arraylength, 1) := by decide +kernel
theorem dJc1_3 : decode cJ1_charAt_3b067 3 = .ok (.invokestatic 9, 3) := by decide +kernel
theorem dJc1_6 : decode cJ1_charAt_3b067 6 = .ok (.aload_n 0, 1) := by decide +kernel
theorem dJc1_7 : decode cJ1_charAt_3b067 7 = .ok (.iload_n 1, 1) := by decide +kernel
theorem dJc1_8 : decode cJ1_charAt_3b067 8 = .ok (.baload, 1) := by decide +kernel
theorem dJc1_9 : decode cJ1_charAt_3b067 9 = .ok (.sipush 255, 3) := by decide +kernel
theorem dJc1_12 : decode cJ1_charAt_3b067 12 = .ok (.iand, 1) := by decide +kernel
theorem dJc1_13 : decode cJ1_charAt_3b067 13 = .ok (.i2c, 1) := by decide +kernel
theorem dJc1_14 : decode cJ1_charAt_3b067 14 = .ok (.ireturn, 1) := by decide +kernel
theorem dJc0_0 : decode cJ0_charAt_5068e 0 = .ok (.aload_n 0, 1) := by decide +kernel
theorem dJc0_1 : decode cJ0_charAt_5068e 1 = .ok (.invokevirtual 492, 3) := by decide +kernel
theorem dJc0_4 : decode cJ0_charAt_5068e 4 = .ok (.ifCond .eq 12, 3) := by decide +kernel
theorem dJc0_7 : decode cJ0_charAt_5068e 7 = .ok (.aload_n 0, 1) := by decide +kernel
theorem dJc0_8 : decode cJ0_charAt_5068e 8 = .ok (.getfield 9, 3) := by decide +kernel
theorem dJc0_11 : decode cJ0_charAt_5068e 11 = .ok (.iload_n 1, 1) := by decide +kernel
theorem dJc0_12 : decode cJ0_charAt_5068e 12 = .ok (.invokestatic 495, 3) := by decide +kernel
theorem dJc0_15 : decode cJ0_charAt_5068e 15 = .ok (.ireturn, 1) := by decide +kernel
theorem cJ_coder {i : Nat} {Q : Int → z_M → Prop} (hi : i < 4) (h : Q 0 I) : z_C yJ0_coder_7d493 cJ0_coder_7d493 1 (some .byte) qJ_0 [aR (300 + i)] I (cqI Q) := by
  refine z_intro (by decide +kernel) 0 (Nat.le_of_ble_eq_true rfl) ?_
  refine g_gsC dJco_0 m_13_22 ?_
  refine g_if_eq dJco_3 (tgt := 13) (by decide) (fun q => absurd q (by decide)) (fun _ => ?_)
  refine g_aload_n (i := 0) (x := 300 + i) dJco_6 rfl rfl ?_
  refine g_getSc hi dJco_7 m_13_23 ?_
  refine g_goto (tgt := 14) dJco_10 (by decide) ?_
  exact g_nreturn dJco_14 (by decide +kernel) ⟨0, rfl, h⟩
theorem cJ_latin {i : Nat} {Q : Int → z_M → Prop} (hi : i < 4) (h : Q 1 I) : z_C yJ0_isLatin1_aae02 cJ0_isLatin1_aae02 1 (some .boolean) qJ_0 [aR (300 + i)] I (cqI Q) := by
  refine z_intro (by decide +kernel) 0 (Nat.le_of_ble_eq_true rfl) ?_
  refine g_gsC dJla_0 m_13_22 ?_
  refine g_if_eq dJla_3 (tgt := 17) (by decide) (fun q => absurd q (by decide)) (fun _ => ?_)
  refine g_aload_n (i := 0) (x := 300 + i) dJla_6 rfl rfl ?_
  refine g_getSc hi dJla_7 m_13_23 ?_
  refine g_if_ne dJla_10 (tgt := 17) (by decide) (fun q => absurd rfl q) (fun _ => ?_)
  refine g_iconst (n := 1) dJla_13 (by decide) ?_
  refine g_goto (tgt := 18) dJla_14 (by decide) ?_
  exact g_nreturn dJla_18 (by decide +kernel) ⟨1, rfl, h⟩
theorem cJ_len {i : Nat} {Q : Int → z_M → Prop} (hi : i < 4) (h : Q (z_ln i : Nat) I) : CJ0_length_8abf5 [aR (300 + i)] I Q := by
  refine z_intro (by decide +kernel) 0 (Nat.le_of_ble_eq_true rfl) ?_
  refine g_aload_n (i := 0) (x := 300 + i) dJle_0 rfl rfl ?_
  refine g_getSv hi dJle_1 m_13_17 ?_
  refine g_lenS hi dJle_4 ?_
  refine g_aload_n (i := 0) (x := 300 + i) dJle_5 rfl rfl ?_
  refine g_callVs (As := []) (n := 0) hi dJle_6 ⟨m_13_21, pdJ_coder, ⟨by decide, by decide⟩, rfl, rfl, by decide, by decide⟩ m_13_18 m_13_19 m_13_20 m_13_15 rfl rfl (Nat.le_of_ble_eq_true rfl) (cJ_coder (Q := fun x J => x = 0 ∧ J = I) hi ⟨rfl, rfl⟩) (fun r J hq => ?_)
  obtain ⟨x, rfl, rfl, rfl⟩ := hq
  refine g_ishr (x := z_ln i) (n9 := 0) dJle_9 (by decide) ?_
  rw [Nat.pow_zero, Nat.div_one]
  exact g_ireturn dJle_10 ⟨_, rfl, h⟩
theorem cJ_ck3 {j n : Int} {a : z_V} {Q : Int → z_M → Prop} (ha : a = aU ∨ a = aR 350) (h0 : 0 ≤ j) (h1 : j < n) (h : Q j I) : z_C yJ3_checkIndex_8e157 cJ3_checkIndex_8e157 3 (some .int) qJ_0 [aI j, aI n, a] I (cqI Q) := by
  have body : ∀ a : z_V, z_R (z_mt yJ3_checkIndex_8e157.cls cJ3_checkIndex_8e157 3 (some .int) qJ_0) (z_fin (cqI Q)) 0 [aI j, aI n, a] [] I := by
    intro a
    refine g_iload_n (i := 0) (x := j) dJk3_0 rfl rfl ?_
    refine g_if_lt dJk3_1 (tgt := 9) (by decide) (fun q => by omega) (fun _ => ?_)
    refine g_iload_n (i := 0) (x := j) dJk3_4 rfl rfl ?_
    refine g_iload_n (i := 1) (x := n) dJk3_5 rfl rfl ?_
    refine g_icmp_lt dJk3_6 (tgt := 16) (by decide) (fun _ => ?_) (fun q => by omega)
    refine g_iload_n (i := 0) (x := j) dJk3_16 rfl rfl ?_
    exact g_ireturn dJk3_17 ⟨_, rfl, h⟩
  rcases ha with rfl | rfl
  · exact z_intro (by decide +kernel) 0 (Nat.le_of_ble_eq_true rfl) (body aU)
  · exact z_intro (by decide +kernel) 0 (Nat.le_of_ble_eq_true rfl) (body (aR 350))
theorem cJ_ck0 {j n : Int} {Q : z_M → Prop} (h0 : 0 ≤ j) (h1 : j < n) (h : Q I) : z_C yJ0_checkIndex_df160 cJ0_checkIndex_df160 2 none qJ_ck [aI j, aI n] I (cqV Q) := by
  refine z_intro (by decide +kernel) 0 (Nat.le_of_ble_eq_true rfl) ?_
  refine g_iload_n (i := 0) (x := j) dJk0_0 rfl rfl ?_
  refine g_iload_n (i := 1) (x := n) dJk0_1 rfl rfl ?_
  refine g_gsF dJk0_2 m_14_15 (fun a ha => ?_)
  refine g_callS (As := [aI j, aI n, a]) (n := 3) dJk0_5 ⟨m_14_19, pdJ_ck3, ⟨by decide, by decide⟩, rfl, rfl, by decide, by decide⟩ m_14_16 m_14_17 m_14_18 rfl (by decide) (cJ_ck3 (Q := fun x J => x = j ∧ J = I) ha h0 h1 ⟨rfl, rfl⟩) (fun r J hq => ?_)
  obtain ⟨x, rfl, rfl, rfl⟩ := hq
  refine g_pop dJk0_8 (fun x q => by cases q) ?_
  exact g_return dJk0_9 ⟨rfl, h⟩
theorem cJ_c1 {i : Nat} {j : Int} {Q : Int → z_M → Prop} (hi : i < 4) (h0 : 0 ≤ j) (h1 : j < z_ln i) (h : Q (z_ch i j.toNat) I) : z_C yJ1_charAt_3b067 cJ1_charAt_3b067 2 (some .char) qJ_l1 [aR (400 + i), aI j] I (cqI Q) := by
  have hr := z_ch_r i hi j.toNat (by omega)
  refine z_intro (by decide +kernel) 0 (Nat.le_of_ble_eq_true rfl) ?_
  refine g_iload_n (i := 1) (x := j) dJc1_0 rfl rfl ?_
  refine g_aload_n (i := 0) (x := 400 + i) dJc1_1 rfl rfl ?_
  refine g_lenS hi dJc1_2 ?_
  refine g_callS (As := [aI j, aI (z_ln i : Nat)]) (n := 2) (st := []) dJc1_3 ⟨m_14_14, pdJ_ck0, ⟨by decide, by decide⟩, rfl, rfl, by decide, by decide⟩ m_14_12 m_14_13 m_13_15 rfl (by decide) (cJ_ck0 (Q := fun J => J = I) h0 h1 rfl) (fun r J hq => ?_)
  obtain ⟨rfl, rfl⟩ := hq
  refine g_aload_n (i := 0) (x := 400 + i) dJc1_6 rfl rfl ?_
  refine g_iload_n (i := 1) (x := j) dJc1_7 rfl rfl ?_
  refine g_baldS hi dJc1_8 h0 h1 ?_
  refine g_sipush (n := 255) dJc1_9 (by decide +kernel) (by decide) ?_
  refine g_iandm (n9 := 8) dJc1_12 (by decide) (by decide) ?_
  rw [show z_ch i j.toNat % 2 ^ 8 = z_ch i j.toNat by omega]
  refine g_i2c dJc1_13 (by omega) (by omega) ?_
  refine g_nreturn dJc1_14 ?_ ⟨_, rfl, h⟩
  obtain ⟨v, hv⟩ : ∃ v : Int, z_ch i j.toNat = v := ⟨_, rfl⟩
  rw [hv] at hr ⊢
  obtain ⟨w, rfl⟩ : ∃ w : Nat, v = w := ⟨v.toNat, by omega⟩
  have all : ∀ w : Nat, w < 128 → narrow .char (.int (z_i (w : Int))) = .int (z_i (w : Int)) := by decide +kernel
  exact all w (by omega)
theorem cJ_at {i : Nat} {j : Int} {Q : Int → z_M → Prop} (hi : i < 4) (h0 : 0 ≤ j) (h1 : j < z_ln i) (h : Q (z_ch i j.toNat) I) : CJ0_charAt_5068e [aR (300 + i), aI j] I Q := by
  have hr := z_ch_r i hi j.toNat (by omega)
  refine z_intro (by decide +kernel) 0 (Nat.le_of_ble_eq_true rfl) ?_
  refine g_aload_n (i := 0) (x := 300 + i) dJc0_0 rfl rfl ?_
  refine g_callVs (As := []) (n := 0) (st := []) hi dJc0_1 ⟨m_14_7, pdJ_latin, ⟨by decide, by decide⟩, rfl, rfl, by decide, by decide⟩ m_14_4 m_14_5 m_14_6 m_13_15 rfl rfl (by decide) (cJ_latin (Q := fun x J => x = 1 ∧ J = I) hi ⟨rfl, rfl⟩) (fun r J hq => ?_)
  obtain ⟨x, rfl, rfl, rfl⟩ := hq
  refine g_if_eq dJc0_4 (tgt := 16) (by decide) (fun q => absurd q (by decide)) (fun _ => ?_)
  refine g_aload_n (i := 0) (x := 300 + i) dJc0_7 rfl rfl ?_
  refine g_getSv hi dJc0_8 m_13_17 ?_
  refine g_iload_n (i := 1) (x := j) dJc0_11 rfl rfl ?_
  refine g_callS (As := [aR (400 + i), aI j]) (n := 2) (st := []) dJc0_12 ⟨m_14_11, pdJ_c1, ⟨by decide, by decide⟩, rfl, rfl, by decide, by decide⟩ m_14_8 m_14_9 m_14_10 rfl (by decide) (cJ_c1 (Q := fun x K => x = z_ch i j.toNat ∧ K = J) hi h0 h1 ⟨rfl, rfl⟩) (fun r K hq => ?_)
  obtain ⟨x, rfl, rfl, rfl⟩ := hq
  refine g_nreturn dJc0_15 ?_ ⟨_, rfl, h⟩
  obtain ⟨v, hv⟩ : ∃ v : Int, z_ch i j.toNat = v := ⟨_, rfl⟩
  rw [hv] at hr ⊢
  obtain ⟨w, rfl⟩ : ∃ w : Nat, v = w := ⟨v.toNat, by omega⟩
  have all : ∀ w : Nat, w < 128 → narrow .char (.int (z_i (w : Int))) = .int (z_i (w : Int)) := by decide +kernel
  exact all w (by omega)
/-! the calls out of Text, and its string constants -/
theorem X8_isWord_18 {Q : Int → z_M → Prop} {a0 a1 a2 : z_V} {i : Nat} (hi : i < 4) (hst : z_sw st ≤ 8 := by exact Nat.le_of_ble_eq_true rfl) (k : JX8_isWord Q 21 [a0, a1, a2] (aI (z_ln i : Nat) :: st) I) : JX8_isWord Q 18 [a0, a1, a2] (aR (300 + i) :: st) I :=
  g_callVs (As := []) (n := 0) hi dX8_isWord_18 ⟨m_13_16, pdJ0_length_8abf5, ⟨by decide, by decide⟩, rfl, rfl, by decide, by decide⟩ m_13_12 m_13_13 m_13_14 m_13_15 rfl rfl hst (cJ_len (Q := fun x J => x = (z_ln i : Nat) ∧ J = I) hi ⟨rfl, rfl⟩) (fun r J hq => by
    obtain ⟨x, rfl, rfl, rfl⟩ := hq
    exact k)
theorem X8_isWord_30 {Q : Int → z_M → Prop} {a0 a1 a2 : z_V} {i : Nat} (hi : i < 4) (hst : z_sw st ≤ 8 := by exact Nat.le_of_ble_eq_true rfl) (k : JX8_isWord Q 33 [a0, a1, a2] (aI (z_ln i : Nat) :: st) I) : JX8_isWord Q 30 [a0, a1, a2] (aR (300 + i) :: st) I :=
  g_callVs (As := []) (n := 0) hi dX8_isWord_30 ⟨m_13_16, pdJ0_length_8abf5, ⟨by decide, by decide⟩, rfl, rfl, by decide, by decide⟩ m_13_12 m_13_13 m_13_14 m_13_15 rfl rfl hst (cJ_len (Q := fun x J => x = (z_ln i : Nat) ∧ J = I) hi ⟨rfl, rfl⟩) (fun r J hq => by
    obtain ⟨x, rfl, rfl, rfl⟩ := hq
    exact k)
theorem X8_isWord_49 {Q : Int → z_M → Prop} {a0 a1 a2 : z_V} {i : Nat} {j : Int} (hi : i < 4) (h0 : 0 ≤ j) (h1 : j < z_ln i) (hst : z_sw st ≤ 8 := by exact Nat.le_of_ble_eq_true rfl) (k : JX8_isWord Q 52 [a0, a1, a2] (aI (z_ch i j.toNat) :: st) I) : JX8_isWord Q 49 [a0, a1, a2] (aI j :: aR (300 + i) :: st) I :=
  g_callVs (As := [aI j]) (n := 1) hi dX8_isWord_49 ⟨m_14_3, pdJ0_charAt_5068e, ⟨by decide, by decide⟩, rfl, rfl, by decide, by decide⟩ m_14_0 m_14_1 m_14_2 m_13_15 rfl rfl hst (cJ_at (Q := fun x J => x = z_ch i j.toNat ∧ J = I) hi h0 h1 ⟨rfl, rfl⟩) (fun r J hq => by
    obtain ⟨x, rfl, rfl, rfl⟩ := hq
    exact k)
theorem X8_readInto_14 {Q : Int → z_M → Prop} {a0 a1 a2 : z_V} (k : JX8_readInto Q 16 [a0, a1, a2] (aR (300 + 0) :: st) I) : JX8_readInto Q 14 [a0, a1, a2] st I := g_ldcS (i := 0) (by decide) rfl rfl dX8_readInto_14 k
theorem X8_readItem_1 {Q : Int → z_M → Prop} {a0 a1 : z_V} (k : JX8_readItem Q 3 [a0, a1] (aR (300 + 1) :: st) I) : JX8_readItem Q 1 [a0, a1] st I := g_ldcS (i := 1) (by decide) rfl rfl dX8_readItem_1 k
theorem X8_readItem_32 {Q : Int → z_M → Prop} {a0 a1 : z_V} (k : JX8_readItem Q 34 [a0, a1] (aR (300 + 2) :: st) I) : JX8_readItem Q 32 [a0, a1] st I := g_ldcS (i := 2) (by decide) rfl rfl dX8_readItem_32 k
theorem X8_readItem_64 {Q : Int → z_M → Prop} {a0 a1 : z_V} (k : JX8_readItem Q 66 [a0, a1] (aR (300 + 3) :: st) I) : JX8_readItem Q 64 [a0, a1] st I := g_ldcS (i := 3) (by decide) rfl rfl dX8_readItem_64 k
end QJ
