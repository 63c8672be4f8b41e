theorem lw_ge {i L : Nat} (hi : i ≤ 1000) (hL : L ≤ 448) (h : ¬ nI L - 7 < nI i) : i + 7 ≤ L := by
  rcases Nat.lt_or_ge L 7 with h1 | h1
  · exfalso
    apply h
    have h2 : nI L - 7 < nI 0 := by
      rcases (show L = 0 ∨ L = 1 ∨ L = 2 ∨ L = 3 ∨ L = 4 ∨ L = 5 ∨ L = 6 by omega) with rfl | rfl | rfl | rfl | rfl | rfl | rfl <;> decide
    have h3 : nI 0 ≤ nI i := (ix_le (a := 0) (b := i) rfl rfl (by omega) (by omega)).mpr (Nat.zero_le _)
    rw [Int32.lt_iff_toInt_lt] at h2 ⊢
    rw [Int32.le_iff_toInt_le] at h3
    omega
  · have e : nI L - 7 = nI (L - 7) := ix_sub (b := 7) rfl rfl h1
    rw [e] at h
    have := mt (ix_lt (a := L - 7) (b := i) rfl rfl (by omega) (by omega)).mpr h
    omega

set_option maxRecDepth 100000 in
set_option maxHeartbeats 600000 in
theorem law_loop {nm : String} {X : mmX} {l : Launch} {k L : Nat} {xs : Nat → Int32} (hC : mm_C l (k + 19) 0 144 pT X) (hs : mm_scr L xs X) (hL : L ≤ 448) : ∀ (nn i : Nat) (F A : mmF) (R : mmR) (G : mmG) (Q : QV), i ≤ L + 7 → L + 7 - i < nn → RepX F A R G Q → RepM F A R G Q → wfR Q → WP (hL_law nm) X 144 18 [(0, .float 0), (1, .ref 0), (2, .ref 123), (3, .int (nI i))] [] F A R G := by
  intro nn
  induction nn with
  | zero => intro i F A R G Q _ hm; exact absurd hm (Nat.not_lt_zero _)
  | succ nn ih =>
    intro i F A R G Q hi hm hX hM hW
    refine wp_iload_n dL_law_18 rfl 3 rfl ?_
    refine wp_xload_n dL_law_19 rfl 0 rfl ?_
    refine wp_slen hs dL_law_20 ?_
    refine wp_bipush (v := 7) dL_law_21 (by decide) ?_
    refine wp_isub dL_law_23 ?_
    refine wp_icmp_gt 1091 dL_law_24 (by decide) (fun c => ?_) (fun c => ?_)
    · refine wp_iconst (v := 1) dL_law_1091 (by decide) ?_
      exact wp_iret hC (show ret = some .boolean from rfl) rfl dL_law_1092 rfl
    · have hi7 : i + 7 ≤ L := lw_ge (by omega) hL c
      have kk : lwK nm X i := fun F A R G Q hX hM hW => by
        refine wp_iinc (v := nI (i + 7)) 3 rfl (by exact ix_add (b := 7) rfl rfl) [1, 2, 3, 0] (show 3 < 4 by decide) rfl rfl rfl dL_law_1085 ?_
        refine wp_goto 18 dL_law_1088 (by decide) ?_
        exact ih (i + 7) F A R G Q (by omega) (by omega) hX hM hW
      refine wp_xload_n dL_law_27 rfl 0 rfl ?_
      refine wp_iload_n dL_law_28 rfl 3 rfl ?_
      refine wp_sld hs (by omega) i rfl (by omega) dL_law_29 ?_
      refine wp_bipush (v := 31) dL_law_30 (by decide) ?_
      refine wp_iand dL_law_32 ?_
      rcases sw_cases (xs i &&& 31) 29 (by decide) with hsw | ⟨j, hj, e⟩
      · refine wp_tableOut 1085 dL_law_33 hsw (by decide) ?_
        exact kk F A R G Q hX hM hW
      · refine wp_top (x' := nI j) e ?_
        clear e
        rcases (show j = 0 ∨ j = 1 ∨ j = 2 ∨ j = 3 ∨ j = 4 ∨ j = 5 ∨ j = 6 ∨ j = 7 ∨ j = 8 ∨ j = 9 ∨ j = 10 ∨ j = 11 ∨ j = 12 ∨ j = 13 ∨ j = 14 ∨ j = 15 ∨ j = 16 ∨ j = 17 ∨ j = 18 ∨ j = 19 ∨ j = 20 ∨ j = 21 ∨ j = 22 ∨ j = 23 ∨ j = 24 ∨ j = 25 ∨ j = 26 ∨ j = 27 ∨ j = 28 ∨ j = 29 by omega) with rfl | rfl | rfl | rfl | rfl | rfl | rfl | rfl | rfl | rfl | rfl | rfl | rfl | rfl | rfl | rfl | rfl | rfl | rfl | rfl | rfl | rfl | rfl | rfl | rfl | rfl | rfl | rfl | rfl | rfl
        · refine wp_tableIn (off := 135) 168 dL_law_33 (by decide) (by decide) (by decide) (by decide) ?_
          exact law_write hC hs hL hi7 hX hM hW kk
        · refine wp_tableIn (off := 158) 191 dL_law_33 (by decide) (by decide) (by decide) (by decide) ?_
          exact law_wipe hC hs hL hi7 hX hM hW kk
        · refine wp_tableIn (off := 171) 204 dL_law_33 (by decide) (by decide) (by decide) (by decide) ?_
          exact law_fault hC hs hL hi7 hX hM hW kk
        · refine wp_tableIn (off := 184) 217 dL_law_33 (by decide) (by decide) (by decide) (by decide) ?_
          exact law_fair hC hs hL hi7 hX hM hW kk
        · refine wp_tableIn (off := 197) 230 dL_law_33 (by decide) (by decide) (by decide) (by decide) ?_
          exact law_about hC hs hL hi7 hX hM hW kk
        · refine wp_tableIn (off := 220) 253 dL_law_33 (by decide) (by decide) (by decide) (by decide) ?_
          exact law_husk hC hs hL hi7 hX hM hW kk
        · refine wp_tableIn (off := 253) 286 dL_law_33 (by decide) (by decide) (by decide) (by decide) ?_
          exact law_thrower hC hs hL hi7 hX hM hW kk
        · refine wp_tableIn (off := 286) 319 dL_law_33 (by decide) (by decide) (by decide) (by decide) ?_
          exact law_lands hC hs hL hi7 hX hM hW kk
        · refine wp_tableIn (off := 329) 362 dL_law_33 (by decide) (by decide) (by decide) (by decide) ?_
          exact law_toss hC hs hL hi7 hX hM hW kk
        · refine wp_tableIn (off := 372) 405 dL_law_33 (by decide) (by decide) (by decide) (by decide) ?_
          exact law_set hC hs hL hi7 hX hM hW kk
        · refine wp_tableIn (off := 395) 428 dL_law_33 (by decide) (by decide) (by decide) (by decide) ?_
          exact law_nail hC hs hL hi7 hX hM hW kk
        · refine wp_tableIn (off := 418) 451 dL_law_33 (by decide) (by decide) (by decide) (by decide) ?_
          exact law_pay hC hs hL hi7 hX hM hW kk
        · refine wp_tableIn (off := 431) 464 dL_law_33 (by decide) (by decide) (by decide) (by decide) ?_
          exact law_blow hC hs hL hi7 hX hM hW kk
        · refine wp_tableIn (off := 454) 487 dL_law_33 (by decide) (by decide) (by decide) (by decide) ?_
          exact law_undo hC hs hL hi7 hX hM hW kk
        · refine wp_tableIn (off := 467) 500 dL_law_33 (by decide) (by decide) (by decide) (by decide) ?_
          exact law_felled hC hs hL hi7 hX hM hW kk
        · refine wp_tableIn (off := 510) 543 dL_law_33 (by decide) (by decide) (by decide) (by decide) ?_
          exact law_fewest hC hs hL hi7 hX hM hW kk
        · refine wp_tableIn (off := 559) 592 dL_law_33 (by decide) (by decide) (by decide) (by decide) ?_
          exact law_winds hC hs hL hi7 hX hM hW kk
        · refine wp_tableIn (off := 592) 625 dL_law_33 (by decide) (by decide) (by decide) (by decide) ?_
          exact law_match hC hs hL hi7 hX hM hW kk
        · refine wp_tableIn (off := 631) 664 dL_law_33 (by decide) (by decide) (by decide) (by decide) ?_
          exact law_nails hC hs hL hi7 hX hM hW kk
        · refine wp_tableIn (off := 654) 687 dL_law_33 (by decide) (by decide) (by decide) (by decide) ?_
          exact law_judge hC hs hL hi7 hX hM hW kk
        · refine wp_tableIn (off := 687) 720 dL_law_33 (by decide) (by decide) (by decide) (by decide) ?_
          exact law_share hC hs hL hi7 hX hM hW kk
        · refine wp_tableIn (off := 736) 769 dL_law_33 (by decide) (by decide) (by decide) (by decide) ?_
          exact law_see hC hs hL hi7 hX hM hW kk
        · refine wp_tableIn (off := 779) 812 dL_law_33 (by decide) (by decide) (by decide) (by decide) ?_
          exact law_unsee hC hs hL hi7 hX hM hW kk
        · refine wp_tableIn (off := 792) 825 dL_law_33 (by decide) (by decide) (by decide) (by decide) ?_
          exact law_holds hC hs hL hi7 hX hM hW kk
        · refine wp_tableIn (off := 815) 848 dL_law_33 (by decide) (by decide) (by decide) (by decide) ?_
          exact law_rests hC hs hL hi7 hX hM hW kk
        · refine wp_tableIn (off := 838) 871 dL_law_33 (by decide) (by decide) (by decide) (by decide) ?_
          exact law_odds hC hs hL hi7 hX hM hW kk
        · refine wp_tableIn (off := 929) 962 dL_law_33 (by decide) (by decide) (by decide) (by decide) ?_
          exact law_seed hC hs hL hi7 hX hM hW kk
        · refine wp_tableIn (off := 983) 1016 dL_law_33 (by decide) (by decide) (by decide) (by decide) ?_
          exact law_fairs hC hs hL hi7 hX hM hW kk
        · refine wp_tableIn (off := 1006) 1039 dL_law_33 (by decide) (by decide) (by decide) (by decide) ?_
          exact law_keep hC hs hL hi7 hX hM hW kk
        · refine wp_tableIn (off := 1029) 1062 dL_law_33 (by decide) (by decide) (by decide) (by decide) ?_
          exact law_again hC hs hL hi7 hX hM hW kk
set_option maxRecDepth 100000 in
set_option maxHeartbeats 600000 in
theorem law_wp {nm : String} {X : mmX} {l : Launch} {k L : Nat} {xs : Nat → Int32} (hC : mm_C l (k + 19) 0 144 pT X) (hs : mm_scr L xs X) (hL : L ≤ 448) {F A : mmF} {R : mmR} {G : mmG} (hF : fz 0 0 F) (hA : fz 0 0 A) (hR : fz none 0 R) (hG : ∀ r, 0 ≤ r → G r = 0) : WP (hL_law nm) X 0 0 [(0, .float 0)] [] F A R G := by
  refine wp_new (ci := 9) (C := RX9) (T := TX9) (n := 11) (ty := tyX9) hC (by decide) rfl rfl rfl inX9 tyX9_ok k_15 k_16 k_1 (mk_fv hF hR hG dfX9) dL_law_0 ?_
  refine wp_dup dL_law_3 rfl ?_
  refine wp_callV (N' := 123) (mm_siteI (av := []) hC rfl lL_9 rfl rfl (Nat.le_of_ble_eq_true rfl) dL_law_4) (c_X9_init l (k + 14) _ _ _ _ hF hA hR hG) (by omega) (by decide) (by decide) (fun F1 A1 R1 G1 hq => ?_)
  obtain ⟨q1, e1, e2⟩ := hq; subst e1; subst e2
  have hF1 : fz 0 123 F1 := fun r hr => by rw [(q1.2 r (Or.inr hr)).1]; exact hF r (Nat.zero_le _)
  have hR1 : fz none 123 R1 := fun r hr => by rw [(q1.2 r (Or.inr hr)).2]; exact hR r (Nat.zero_le _)
  refine wp_astore_n [1, 0] (show 1 < 4 by decide) rfl rfl rfl dL_law_7 rfl ?_
  refine wp_new (ci := 10) (C := RX10) (T := TX10) (n := 41) (ty := tyX10) hC (by decide) rfl rfl rfl inX10 tyX10_ok k_723 k_724 k_12 (mk_fv hF1 hR1 (fun r _ => hG r (Nat.zero_le _)) dfX10) dL_law_8 ?_
  refine wp_dup dL_law_11 rfl ?_
  refine wp_callV (N' := 144) (mm_siteI (av := []) hC rfl lL_12 rfl rfl (Nat.le_of_ble_eq_true rfl) dL_law_12) (c_X10_init l (k + 17) _ _ _ _ hF1 (hA.le (by decide)) hR1 (fun r _ => hG r (Nat.zero_le _))) (by omega) (by decide) (by decide) (fun F2 A2 R2 G2 hq => ?_)
  obtain ⟨q2, e1, e2⟩ := hq; subst e1; subst e2
  refine wp_astore_n [1, 2, 0] (show 2 < 4 by decide) rfl rfl rfl dL_law_15 rfl ?_
  refine wp_iconst (v := 0) dL_law_16 (by decide) ?_
  refine wp_istore_n [1, 2, 3, 0] (show 3 < 4 by decide) rfl rfl rfl dL_law_17 rfl ?_
  have hF2 : ∀ r, r < 144 → F2 r = FI r := fun r hr => by
    rcases Nat.lt_or_ge r 123 with h | h
    · rw [(q2.2 r (Or.inl h)).1]; exact (q1.1 r (Nat.zero_le _) h).1
    · exact (q2.1 r h hr).1
  have hR2 : ∀ r, r < 144 → R2 r = RI r := fun r hr => by
    rcases Nat.lt_or_ge r 123 with h | h
    · rw [(q2.2 r (Or.inl h)).2]; exact (q1.1 r (Nat.zero_le _) h).2
    · exact (q2.1 r h hr).2
  have hA2 : ∀ r, u2 A 131 13 1 r = if r = 131 then va_up (fun _ => 0) 13 1 else fun _ => 0 := fun r => by
    by_cases h : r = 131
    · subst h; rw [u2_row, if_pos rfl, hA 131 (Nat.zero_le _)]
    · rw [u2_ne h, if_neg h, hA r (Nat.zero_le _)]
  exact law_loop hC hs hL (L + 8) 0 _ _ _ _ newQ (by omega) (by omega) (RepX_new hF2 (fun r hr => by rw [hA2 r, if_neg (by omega)]) hR2 (hG 0 (Nat.zero_le _))) (RepM_new hF2 (fun r _ _ => hA2 r) hR2 (hG 123 (Nat.zero_le _))) wfR_new
