/-! the law: its loop -/
/-- the law's loop -/
theorem L_loop {n : Nat} {xs : Nat → Int} (hxs : ∀ j, inI (xs j)) (hn : n ≤ 384) : ∀ (f i : Nat) (I : z_M), n ≤ i + f → i ≤ 400 → RR I → z_R (muL n xs) finL 18 [aR 200, aR 0, aR 60, aI i] [] I := by
  intro f
  induction f with
  | zero =>
    intro i I hf hi h
    refine g_iload_n (i := 3) (x := i) dL_18 rfl rfl ?_
    refine g_aload_n (i := 0) (x := 200) dL_19 rfl rfl ?_
    refine g_slen hn dL_20 ?_
    refine g_bipush (n := 6) dL_21 (by decide +kernel) (by decide) ?_
    refine g_isub dL_23 (by omega) ?_
    refine g_icmp_gt dL_24 (tgt := 1114) (by decide) (fun _ => ?_) (fun q => by omega)
    refine g_iconst (n := 1) dL_1114 (by decide) ?_
    exact g_lret dL_1115
  | succ f ih =>
    intro i I hf hi h
    refine g_iload_n (i := 3) (x := i) dL_18 rfl rfl ?_
    refine g_aload_n (i := 0) (x := 200) dL_19 rfl rfl ?_
    refine g_slen hn dL_20 ?_
    refine g_bipush (n := 6) dL_21 (by decide +kernel) (by decide) ?_
    refine g_isub dL_23 (by omega) ?_
    refine g_icmp_gt dL_24 (tgt := 1114) (by decide) (fun _ => ?_) (fun q => ?_)
    · refine g_iconst (n := 1) dL_1114 (by decide) ?_
      exact g_lret dL_1115
    · have hi6 : i + 6 ≤ n := by omega
      have k : ∀ I', RR I' → z_R (muL n xs) finL 1108 [aR 200, aR 0, aR 60, aI i] [] I' := by
        intro I' h'
        refine g_iinc (i := 3) (x := i) dL_1108 rfl (show 3 < 4 by decide) rfl (by omega) ?_
        refine g_goto dL_1111 (tgt := 18) (by decide) ?_
        exact ih (i + 6) I' (by omega) (by omega) h'
      refine g_aload_n (i := 0) (x := 200) dL_27 rfl rfl ?_
      refine g_iload_n (i := 3) (x := i) dL_28 rfl rfl ?_
      refine g_sld hxs dL_29 (by omega) (by omega) ?_
      refine g_bipush (n := 63) dL_30 (by decide +kernel) (by decide) ?_
      refine g_iandm (n9 := 6) dL_32 (by decide) (by decide) ?_
      obtain ⟨v, hv⟩ : ∃ v : Nat, xs (i : Int).toNat % 2 ^ 6 = v := ⟨(xs (i : Int).toNat % 2 ^ 6).toNat, by omega⟩
      have hv64 : v < 64 := by omega
      rw [hv]
      rcases (show v = 0 ∨ v = 1 ∨ v = 2 ∨ v = 3 ∨ v = 4 ∨ v = 5 ∨ v = 6 ∨ v = 7 ∨ v = 8 ∨ v = 9 ∨ v = 10 ∨ v = 11 ∨ v = 12 ∨ v = 13 ∨ v = 14 ∨ v = 15 ∨ v = 16 ∨ v = 17 ∨ v = 18 ∨ v = 19 ∨ v = 20 ∨ v = 21 ∨ v = 22 ∨ v = 23 ∨ v = 24 ∨ v = 25 ∨ v = 26 ∨ v = 27 ∨ v = 28 ∨ v = 29 ∨ v = 30 ∨ v = 31 ∨ v = 32 ∨ v = 33 ∨ 34 ≤ v by omega) with rfl | rfl | rfl | rfl | rfl | rfl | rfl | rfl | rfl | rfl | rfl | rfl | rfl | rfl | rfl | rfl | rfl | rfl | rfl | rfl | rfl | rfl | rfl | rfl | rfl | rfl | rfl | rfl | rfl | rfl | rfl | rfl | rfl | rfl | q2
      · exact g_tabIn dL_33 (by decide) (by decide) (off := 151) rfl (tgt := 184) (by decide) (L_organ hxs hi6 hn h k)
      · exact g_tabIn dL_33 (by decide) (by decide) (off := 164) rfl (tgt := 197) (by decide) (L_place hxs hi6 hn h k)
      · exact g_tabIn dL_33 (by decide) (by decide) (off := 227) rfl (tgt := 260) (by decide) (L_pipe hxs hi6 hn h k)
      · exact g_tabIn dL_33 (by decide) (by decide) (off := 260) rfl (tgt := 293) (by decide) (L_note hxs hi6 hn h k)
      · exact g_tabIn dL_33 (by decide) (by decide) (off := 293) rfl (tgt := 326) (by decide) (L_hush hxs hi6 hn h k)
      · exact g_tabIn dL_33 (by decide) (by decide) (off := 316) rfl (tgt := 349) (by decide) (L_type hxs hi6 hn h k)
      · exact g_tabIn dL_33 (by decide) (by decide) (off := 339) rfl (tgt := 372) (by decide) (L_clear hxs hi6 hn h k)
      · exact g_tabIn dL_33 (by decide) (by decide) (off := 352) rfl (tgt := 385) (by decide) (L_read hxs hi6 hn h k)
      · exact g_tabIn dL_33 (by decide) (by decide) (off := 365) rfl (tgt := 398) (by decide) (L_pass hxs hi6 hn h k)
      · exact g_tabIn dL_33 (by decide) (by decide) (off := 388) rfl (tgt := 421) (by decide) (L_fetch hxs hi6 hn h k)
      · exact g_tabIn dL_33 (by decide) (by decide) (off := 411) rfl (tgt := 444) (by decide) (L_undo hxs hi6 hn h k)
      · exact g_tabIn dL_33 (by decide) (by decide) (off := 424) rfl (tgt := 457) (by decide) (L_of hxs hi6 hn h k)
      · exact g_tabIn dL_33 (by decide) (by decide) (off := 457) rfl (tgt := 490) (by decide) (L_at hxs hi6 hn h k)
      · exact g_tabIn dL_33 (by decide) (by decide) (off := 490) rfl (tgt := 523) (by decide) (L_then hxs hi6 hn h k)
      · exact g_tabIn dL_33 (by decide) (by decide) (off := 523) rfl (tgt := 556) (by decide) (L_left hxs hi6 hn h k)
      · exact g_tabIn dL_33 (by decide) (by decide) (off := 546) rfl (tgt := 579) (by decide) (L_plays hxs hi6 hn h k)
      · exact g_tabIn dL_33 (by decide) (by decide) (off := 579) rfl (tgt := 612) (by decide) (L_best hxs hi6 hn h k)
      · exact g_tabIn dL_33 (by decide) (by decide) (off := 602) rfl (tgt := 635) (by decide) (L_missing hxs hi6 hn h k)
      · exact g_tabIn dL_33 (by decide) (by decide) (off := 635) rfl (tgt := 668) (by decide) (L_fetchAll hxs hi6 hn h k)
      · exact g_tabIn dL_33 (by decide) (by decide) (off := 658) rfl (tgt := 691) (by decide) (L_falls hxs hi6 hn h k)
      · exact g_tabIn dL_33 (by decide) (by decide) (off := 681) rfl (tgt := 714) (by decide) (L_walk hxs hi6 hn h k)
      · exact g_tabIn dL_33 (by decide) (by decide) (off := 714) rfl (tgt := 747) (by decide) (L_reading hxs hi6 hn h k)
      · exact g_tabIn dL_33 (by decide) (by decide) (off := 767) rfl (tgt := 800) (by decide) (L_forget hxs hi6 hn h k)
      · exact g_tabIn dL_33 (by decide) (by decide) (off := 780) rfl (tgt := 813) (by decide) (L_may hxs hi6 hn h k)
      · exact g_tabIn dL_33 (by decide) (by decide) (off := 803) rfl (tgt := 836) (by decide) (L_listen hxs hi6 hn h k)
      · exact g_tabIn dL_33 (by decide) (by decide) (off := 836) rfl (tgt := 869) (by decide) (L_wish hxs hi6 hn h k)
      · exact g_tabIn dL_33 (by decide) (by decide) (off := 869) rfl (tgt := 902) (by decide) (L_feast hxs hi6 hn h k)
      · exact g_tabIn dL_33 (by decide) (by decide) (off := 912) rfl (tgt := 945) (by decide) (L_hours hxs hi6 hn h k)
      · exact g_tabIn dL_33 (by decide) (by decide) (off := 945) rfl (tgt := 978) (by decide) (L_part hxs hi6 hn h k)
      · exact g_tabIn dL_33 (by decide) (by decide) (off := 969) rfl (tgt := 1002) (by decide) (L_image hxs hi6 hn h k)
      · exact g_tabIn dL_33 (by decide) (by decide) (off := 992) rfl (tgt := 1025) (by decide) (L_from hxs hi6 hn h k)
      · exact g_tabIn dL_33 (by decide) (by decide) (off := 1015) rfl (tgt := 1048) (by decide) (L_status hxs hi6 hn h k)
      · exact g_tabIn dL_33 (by decide) (by decide) (off := 1038) rfl (tgt := 1071) (by decide) (L_count hxs hi6 hn h k)
      · exact g_tabIn dL_33 (by decide) (by decide) (off := 1061) rfl (tgt := 1094) (by decide) (L_digest hxs hi6 hn h k)
      · exact g_tabOut dL_33 (Or.inr (by omega)) (tgt := 1108) (by decide) (k I h)
