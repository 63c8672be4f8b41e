set_option maxRecDepth 100000 in
set_option maxHeartbeats 600000 in
theorem c_X10_note (l : Launch) (k : Nat) (F A : mmF) (R : mmR) (G : mmG) (Q : QV) (hX : RepM F A R G Q) (hl : (qA Q).length ≤ 14) : Meets l hX10_note k 144 144 [.ref 123] F A R G (pV (fun F1 A1 R1 G1 => RepM F1 A1 R1 G1 (remQ Q) ∧ frY F A R G F1 A1 R1 G1 ∧ R = R1 ∧ G = G1)) := by
  refine mm_start rfl (Nat.le_of_ble_eq_true rfl) (fun X hC => ?_)
  show WP hX10_note X 144 0 [(0, .ref 123)] [] F A R G
  obtain ⟨hR, ⟨hn, ht⟩, hM, hP, ⟨ha, hac⟩, ⟨he, hes⟩, hk, hg⟩ := id hX
  refine wp_aload_n dX10_note_0 rfl 0 rfl ?_
  refine wp_getI fX10_141 rfl (rfl) (by decide) dX10_note_1 ?_
  refine wp_top (x' := nI (qA Q).length) (ha) ?_
  refine wp_bipush (v := 14) dX10_note_4 (by decide) ?_
  refine wp_icmp_ne 49 dX10_note_6 (by decide) (fun c1 => ?_) (fun c1 => ?_)
  · replace c1 := mt (ix_eq (a := (qA Q).length) (b := 14) (rfl) (rfl) (by omega) (by omega)).mpr c1
    refine wp_iconst (v := 0) dX10_note_49 (by decide) ?_
    refine wp_istore_n [1, 0] (by decide) rfl rfl rfl dX10_note_50 rfl ?_
    have lp : ∀ (nn : Nat) (j : Nat) (A3 : mmF), (j ≤ 15) → (∀ k, k < j → A3 134 (15 * ((qA Q).length) + k) = A 131 k) → (∀ k, k < 15 * ((qA Q).length) → A3 134 k = A 134 k) → (∀ r, r ≠ 134 → A3 r = A r) → 15 - j < nn → WP hX10_note X 144 51 [(0, .ref 123), (1, .int (nI j))] [] F A3 R G := by
      intro nn
      induction nn with
      | zero => intro j A3 _ _ _ _ hm; exact absurd hm (Nat.not_lt_zero _)
      | succ nn ih_lp =>
        intro j A3 hj hlo3 hhi3 hr3 hm_lp
        refine wp_iload_n dX10_note_51 rfl 1 rfl ?_
        refine wp_bipush (v := 15) dX10_note_52 (by decide) ?_
        refine wp_icmp_ge 83 dX10_note_54 (by decide) (fun c2 => ?_) (fun c2 => ?_)
        · replace c2 := (ix_le (a := 15) (b := j) (rfl) (rfl) (by omega) (by omega)).mp c2
          refine wp_aload_n dX10_note_83 rfl 0 rfl ?_
          refine wp_dup dX10_note_84 rfl ?_
          refine wp_getI fX10_141 rfl (rfl) (by decide) dX10_note_85 ?_
          refine wp_top (x' := nI (qA Q).length) (ha) ?_
          refine wp_iconst (v := 1) dX10_note_88 (by decide) ?_
          refine wp_iadd dX10_note_89 ?_
          refine wp_top (x' := nI ((qA Q).length + 1)) (nI_1 _) ?_
          refine wp_putI fX10_141 fn_10_22 rfl (rfl) (by decide) dX10_note_90 ?_
          exact wp_vret hC rfl dX10_note_93 (pV_ok (by
      obtain ⟨hX1, hy1⟩ := hX.nt (F1 := u2 F 123 22 (nI ((qA Q).length + 1))) (A1 := A3) (a := pushA (qA Q) (qS Q)) ⟨fun r hr => u2_ne hr, fun j _ hj => by rw [u2_row, va_up_ne _ _ hj], fun r _ hr _ _ => hr3 r hr⟩ (by rw [u2_row, va_up_self, pushA_len hl, if_pos (by omega)]) (fun i S hS k hk => by
        rcases pushA_get hl hS with ⟨h1, ⟨h2, h3⟩ | ⟨h2, h3⟩⟩ | ⟨h1, -⟩
        · rw [hhi3 _ (by omega)]; exact hac i S h3 k hk
        · rw [h2, h3, hlo3 k (by omega)]; exact hP k hk
        · omega)
      exact ⟨hX1, hy1, rfl, rfl⟩))
        · replace c2 := mt (ix_le (a := 15) (b := j) (rfl) (rfl) (by omega) (by omega)).mpr c2
          refine wp_aload_n dX10_note_57 rfl 0 rfl ?_
          refine wp_getO (q := 134) fX10_40 hR rfl (rfl) (by decide) (by decide) rfl dX10_note_58 ?_
          refine wp_bipush (v := 15) dX10_note_61 (by decide) ?_
          refine wp_aload_n dX10_note_63 rfl 0 rfl ?_
          refine wp_getI fX10_141 rfl (rfl) (by decide) dX10_note_64 ?_
          refine wp_top (x' := nI (qA Q).length) (ha) ?_
          refine wp_imul dX10_note_67 ?_
          refine wp_iload_n dX10_note_68 rfl 1 rfl ?_
          refine wp_iadd dX10_note_69 ?_
          refine wp_aload_n dX10_note_70 rfl 0 rfl ?_
          refine wp_getO (q := 131) fX10_31 hR rfl (rfl) (by decide) (by decide) rfl dX10_note_71 ?_
          refine wp_iload_n dX10_note_74 rfl 1 rfl ?_
          refine wp_iald j (rfl) (rfl) (by decide) ((show j < 15 from by omega)) dX10_note_75 ?_
          refine wp_iast ((15 * ((qA Q).length)) + j) (ix_add (ix_mul rfl rfl) rfl) (rfl) (by decide) ((show (15 * ((qA Q).length)) + j < 210 from by omega)) dX10_note_76 ?_
          refine wp_iinc (v := nI (j + 1)) 1 rfl (by exact nI_1 j) [1, 0] (by decide) rfl rfl rfl dX10_note_77 ?_
          refine wp_goto 51 dX10_note_80 (by decide) ?_
          exact ih_lp (j + 1) _ (by omega) (fun k hk => by rw [u2_row]; by_cases e : k = j; (rw [e, va_up_self]; rw [hr3 131 (by decide)]); (rw [va_up_ne _ _ (by omega)]; exact hlo3 k (by omega))) (fun k hk => by rw [u2_row, va_up_ne _ _ (by omega)]; exact hhi3 k hk) (fun r h => by rw [u2_ne h]; exact hr3 r h) (by omega)
    exact lp (15 + 1) 0 A (by decide) (fun _ h => absurd h (Nat.not_lt_zero _)) (fun _ _ => rfl) (fun _ _ => rfl) (by omega)
  · replace c1 := (ix_eq (a := (qA Q).length) (b := 14) (rfl) (rfl) (by omega) (by omega)).mp c1
    refine wp_iconst (v := 0) dX10_note_9 (by decide) ?_
    refine wp_istore_n [1, 0] (by decide) rfl rfl rfl dX10_note_10 rfl ?_
    have lp : ∀ (nn : Nat) (i : Nat) (A2 : mmF), (i ≤ 195) → (∀ k, k < i → A2 134 k = A 134 (k + 15)) → (∀ k, i ≤ k → A2 134 k = A 134 k) → (∀ r, r ≠ 134 → A2 r = A r) → 195 - i < nn → WP hX10_note X 144 11 [(0, .ref 123), (1, .int (nI i))] [] F A2 R G := by
      intro nn
      induction nn with
      | zero => intro i A2 _ _ _ _ hm; exact absurd hm (Nat.not_lt_zero _)
      | succ nn ih_lp =>
        intro i A2 hi hlo hhi hr2 hm_lp
        refine wp_iload_n dX10_note_11 rfl 1 rfl ?_
        refine wp_sipush (v := 195) dX10_note_12 (by decide) ?_
        refine wp_icmp_ge 39 dX10_note_15 (by decide) (fun c3 => ?_) (fun c3 => ?_)
        · replace c3 := (ix_le (a := 195) (b := i) (rfl) (rfl) (by omega) (by omega)).mp c3
          refine wp_aload_n dX10_note_39 rfl 0 rfl ?_
          refine wp_dup dX10_note_40 rfl ?_
          refine wp_getI fX10_141 rfl (rfl) (by decide) dX10_note_41 ?_
          refine wp_top (x' := nI (qA Q).length) (ha) ?_
          refine wp_iconst (v := 1) dX10_note_44 (by decide) ?_
          refine wp_isub dX10_note_45 ?_
          refine wp_top (x' := nI ((qA Q).length - 1)) (ix_sub (a := (qA Q).length) (b := 1) rfl rfl (by omega)) ?_
          refine wp_putI fX10_141 fn_10_22 rfl (rfl) (by decide) dX10_note_46 ?_
          obtain ⟨F2, hF2⟩ : ∃ z, z = u2 F 123 22 (nI ((qA Q).length - 1)) := ⟨_, rfl⟩
          rw [← hF2]
          have h22 : F2 123 22 = nI ((qA Q).length - 1) := by rw [hF2, u2_row]; exact va_up_self _ _ _
          refine wp_iconst (v := 0) dX10_note_49 (by decide) ?_
          refine wp_istore_n [1, 0] (by decide) rfl rfl rfl dX10_note_50 rfl ?_
          have lp : ∀ (nn : Nat) (j : Nat) (A3 : mmF), (j ≤ 15) → (∀ k, k < j → A3 134 (15 * ((qA Q).length - 1) + k) = A2 131 k) → (∀ k, k < 15 * ((qA Q).length - 1) → A3 134 k = A2 134 k) → (∀ r, r ≠ 134 → A3 r = A2 r) → 15 - j < nn → WP hX10_note X 144 51 [(0, .ref 123), (1, .int (nI j))] [] F2 A3 R G := by
            intro nn
            induction nn with
            | zero => intro j A3 _ _ _ _ hm; exact absurd hm (Nat.not_lt_zero _)
            | succ nn ih_lp =>
              intro j A3 hj hlo3 hhi3 hr3 hm_lp
              refine wp_iload_n dX10_note_51 rfl 1 rfl ?_
              refine wp_bipush (v := 15) dX10_note_52 (by decide) ?_
              refine wp_icmp_ge 83 dX10_note_54 (by decide) (fun c4 => ?_) (fun c4 => ?_)
              · replace c4 := (ix_le (a := 15) (b := j) (rfl) (rfl) (by omega) (by omega)).mp c4
                refine wp_aload_n dX10_note_83 rfl 0 rfl ?_
                refine wp_dup dX10_note_84 rfl ?_
                refine wp_getI fX10_141 rfl (rfl) (by decide) dX10_note_85 ?_
                refine wp_top (x' := nI ((qA Q).length - 1)) (h22) ?_
                refine wp_iconst (v := 1) dX10_note_88 (by decide) ?_
                refine wp_iadd dX10_note_89 ?_
                refine wp_top (x' := nI (((qA Q).length - 1) + 1)) (nI_1 _) ?_
                refine wp_putI fX10_141 fn_10_22 rfl (rfl) (by decide) dX10_note_90 ?_
                exact wp_vret hC rfl dX10_note_93 (pV_ok (by
        obtain ⟨hX1, hy1⟩ := hX.nt (F1 := u2 F2 123 22 (nI ((qA Q).length - 1 + 1))) (A1 := A3) (a := pushA (qA Q) (qS Q)) ⟨fun r hr => by rw [u2_ne hr, hF2, u2_ne hr], fun j _ hj => by rw [u2_row, va_up_ne _ _ hj, hF2, u2_row, va_up_ne _ _ hj], fun r _ hr _ _ => by rw [hr3 r hr, hr2 r hr]⟩ (by rw [u2_row, va_up_self, pushA_len hl, if_neg (by omega)]; congr 1; omega) (fun i S hS k hk => by
          rcases pushA_get hl hS with ⟨h1, -⟩ | ⟨h1, ⟨h2, h3⟩ | ⟨h2, h3⟩⟩
          · omega
          · rw [hhi3 _ (by omega), hlo _ (by omega), show 15 * i + k + 15 = 15 * (i + 1) + k by omega]; exact hac (i + 1) S h3 k hk
          · rw [h2, h3, show 15 * 13 + k = 15 * ((qA Q).length - 1) + k by omega, hlo3 k (by omega), hr2 131 (by decide)]; exact hP k hk)
        exact ⟨hX1, hy1, rfl, rfl⟩))
              · replace c4 := mt (ix_le (a := 15) (b := j) (rfl) (rfl) (by omega) (by omega)).mpr c4
                refine wp_aload_n dX10_note_57 rfl 0 rfl ?_
                refine wp_getO (q := 134) fX10_40 hR rfl (rfl) (by decide) (by decide) rfl dX10_note_58 ?_
                refine wp_bipush (v := 15) dX10_note_61 (by decide) ?_
                refine wp_aload_n dX10_note_63 rfl 0 rfl ?_
                refine wp_getI fX10_141 rfl (rfl) (by decide) dX10_note_64 ?_
                refine wp_top (x' := nI ((qA Q).length - 1)) (h22) ?_
                refine wp_imul dX10_note_67 ?_
                refine wp_iload_n dX10_note_68 rfl 1 rfl ?_
                refine wp_iadd dX10_note_69 ?_
                refine wp_aload_n dX10_note_70 rfl 0 rfl ?_
                refine wp_getO (q := 131) fX10_31 hR rfl (rfl) (by decide) (by decide) rfl dX10_note_71 ?_
                refine wp_iload_n dX10_note_74 rfl 1 rfl ?_
                refine wp_iald j (rfl) (rfl) (by decide) ((show j < 15 from by omega)) dX10_note_75 ?_
                refine wp_iast ((15 * ((qA Q).length - 1)) + j) (ix_add (ix_mul rfl rfl) rfl) (rfl) (by decide) ((show (15 * ((qA Q).length - 1)) + j < 210 from by omega)) dX10_note_76 ?_
                refine wp_iinc (v := nI (j + 1)) 1 rfl (by exact nI_1 j) [1, 0] (by decide) rfl rfl rfl dX10_note_77 ?_
                refine wp_goto 51 dX10_note_80 (by decide) ?_
                exact ih_lp (j + 1) _ (by omega) (fun k hk => by rw [u2_row]; by_cases e : k = j; (rw [e, va_up_self]; rw [hr3 131 (by decide)]); (rw [va_up_ne _ _ (by omega)]; exact hlo3 k (by omega))) (fun k hk => by rw [u2_row, va_up_ne _ _ (by omega)]; exact hhi3 k hk) (fun r h => by rw [u2_ne h]; exact hr3 r h) (by omega)
          exact lp (15 + 1) 0 A2 (by decide) (fun _ h => absurd h (Nat.not_lt_zero _)) (fun _ _ => rfl) (fun _ _ => rfl) (by omega)
        · replace c3 := mt (ix_le (a := 195) (b := i) (rfl) (rfl) (by omega) (by omega)).mpr c3
          refine wp_aload_n dX10_note_18 rfl 0 rfl ?_
          refine wp_getO (q := 134) fX10_40 hR rfl (rfl) (by decide) (by decide) rfl dX10_note_19 ?_
          refine wp_iload_n dX10_note_22 rfl 1 rfl ?_
          refine wp_aload_n dX10_note_23 rfl 0 rfl ?_
          refine wp_getO (q := 134) fX10_40 hR rfl (rfl) (by decide) (by decide) rfl dX10_note_24 ?_
          refine wp_iload_n dX10_note_27 rfl 1 rfl ?_
          refine wp_bipush (v := 15) dX10_note_28 (by decide) ?_
          refine wp_iadd dX10_note_30 ?_
          refine wp_iald (i + 15) (ix_add rfl rfl) (rfl) (by decide) ((show i + 15 < 210 from by omega)) dX10_note_31 ?_
          refine wp_iast i (rfl) (rfl) (by decide) ((show i < 210 from by omega)) dX10_note_32 ?_
          refine wp_iinc (v := nI (i + 1)) 1 rfl (by exact nI_1 i) [1, 0] (by decide) rfl rfl rfl dX10_note_33 ?_
          refine wp_goto 11 dX10_note_36 (by decide) ?_
          exact ih_lp (i + 1) _ (by omega) (fun k hk => by rw [u2_row]; by_cases e : k = i; (rw [e, va_up_self]; exact hhi _ (by omega)); (rw [va_up_ne _ _ e]; exact hlo k (by omega))) (fun k hk => by rw [u2_row, va_up_ne _ _ (by omega)]; exact hhi k (by omega)) (fun r h => by rw [u2_ne h]; exact hr2 r h) (by omega)
    exact lp (195 + 1) 0 A (by decide) (fun _ h => absurd h (Nat.not_lt_zero _)) (fun _ _ => rfl) (fun _ _ => rfl) (by omega)

set_option maxRecDepth 100000 in
set_option maxHeartbeats 600000 in
theorem c_X10_toss (l : Launch) (k : Nat) (F A : mmF) (R : mmR) (G : mmG) (t pl lk : Int32) (Q : QV) (hX : RepM F A R G Q) (hwf : wfQ Q) : Meets l hX10_toss (k + 3) 144 144 [.ref 123, .int t, .int pl, .int lk] F A R G (pI (fun v F1 A1 R1 G1 => v = (wToss Q t pl lk).2 ∧ RepM F1 A1 R1 G1 (wToss Q t pl lk).1 ∧ frY F A R G F1 A1 R1 G1)) := by
  refine mm_start rfl (Nat.le_of_ble_eq_true rfl) (fun X hC => ?_)
  show WP hX10_toss X 144 0 [(0, .ref 123), (1, .int t), (2, .int pl), (3, .int lk)] [] F A R G
  obtain ⟨hw60, hw, hwS, hwA, hwE, hwK⟩ := id hwf
  have hw1 := hw.1
  refine wp_aload_n dX10_toss_0 rfl 0 rfl ?_
  refine wp_iconst (v := 0) dX10_toss_1 (by decide) ?_
  refine wp_putI fX10_71 fn_10_0 rfl (rfl) (by decide) dX10_toss_2 ?_
  obtain ⟨F0, hF0⟩ : ∃ z, z = u2 F 123 0 0 := ⟨_, rfl⟩
  rw [← hF0]
  have hs0 : scN F A F0 A := by rw [hF0]; exact scN.F (by decide)
  obtain ⟨hX0, hy0⟩ := hX.scr hs0
  obtain ⟨hR, ⟨hn, ht⟩, hM, hP, ⟨ha, hac⟩, ⟨he, hes⟩, hk, hg⟩ := id hX0
  refine wp_aload_n dX10_toss_5 rfl 0 rfl ?_
  refine wp_iload_n dX10_toss_6 rfl 1 rfl ?_
  refine wp_iload_n dX10_toss_7 rfl 2 rfl ?_
  refine wp_iload_n dX10_toss_8 rfl 3 rfl ?_
  refine wp_callP (e := noTm (qB Q) t pl lk) (mm_siteV (av := [.int t, .int pl, .int lk]) hC lX10_188 (rfl) (by decide) ⟨_, rfl, rfl⟩ rfl rfl (Nat.le_of_ble_eq_true rfl) dX10_toss_9) (c_X10_noThrow l k _ _ _ _ _ _ _ (qB Q) hM hw) (by omega) (by decide) ?_
  refine wp_istore [1, 2, 3, 4, 0] (by decide) rfl rfl rfl dX10_toss_12 ?_
  refine wp_iload dX10_toss_14 4 rfl ?_
  refine wp_if_eq 22 dX10_toss_16 (by decide) (fun c1 => ?_) (fun c1 => ?_)
  · obtain ⟨hn9, ⟨t, htn, rfl⟩, ⟨pp, hpp, hpe⟩, qq, hqq, hqe⟩ := noTm_nat hw c1
    refine wp_aload_n dX10_toss_22 rfl 0 rfl ?_
    refine wp_getO (q := 131) fX10_31 hR rfl (rfl) (by decide) (by decide) rfl dX10_toss_23 ?_
    refine wp_bipush (v := 14) dX10_toss_26 (by decide) ?_
    refine wp_iald 14 (rfl) (rfl) (by decide) ((show 14 < 15 from by omega)) dX10_toss_28 ?_
    refine wp_top (x' := (qS Q).2.2 6) (hP 14 (by decide)) ?_
    refine wp_if_ne 35 dX10_toss_29 (by decide) (fun c2 => ?_) (fun c2 => ?_)
    · refine wp_aload_n dX10_toss_35 rfl 0 rfl ?_
      refine wp_callV (mm_siteV (av := []) hC lX10_192 (rfl) (by decide) ⟨_, rfl, rfl⟩ rfl rfl (Nat.le_of_ble_eq_true rfl) dX10_toss_36) (c_X10_note l (k + 2) _ _ _ _ Q hX0 hwA.1) (by omega) (by decide) (by decide) ?_
      rintro F1 A1 _ _ ⟨hX1, hy1, rfl, rfl⟩
      have hy1 := hy0.trans hy1
      have hM : isM F1 A1 4 125 (qB Q) := hX1.2.2.1
      have hP : isP A1 131 (qS Q) := hX1.2.2.2.1
      refine wp_aload_n dX10_toss_39 rfl 0 rfl ?_
      refine wp_getO (q := 131) fX10_31 hR rfl (rfl) (by decide) (by decide) rfl dX10_toss_40 ?_
      refine wp_bipush (v := 14) dX10_toss_43 (by decide) ?_
      refine wp_dup2 dX10_toss_45 rfl rfl ?_
      refine wp_iald 14 (rfl) (rfl) (by decide) ((show 14 < 15 from by omega)) dX10_toss_46 ?_
      refine wp_top (x' := (qS Q).2.2 6) (hP 14 (by decide)) ?_
      refine wp_iconst (v := 1) dX10_toss_47 (by decide) ?_
      refine wp_isub dX10_toss_48 ?_
      refine wp_iast 14 (rfl) (rfl) (by decide) ((show 14 < 15 from by omega)) dX10_toss_49 ?_
      obtain ⟨A2, hA2⟩ : ∃ z, z = u2 A1 131 14 (((qS Q).2.2 6) - 1) := ⟨_, rfl⟩
      rw [← hA2]
      have hP2 : isP A2 131 (decS (qS Q)) := by rw [hA2]; exact isP_14 hP
      have hs2 : scM 999 131 999 999 F1 A1 F1 A2 := ⟨fun _ _ => rfl, fun _ _ _ => rfl, fun r _ hr _ _ => by rw [hA2, u2_ne hr]⟩
      have hM2 : isM F1 A2 4 125 (qB Q) := isM_c hM ⟨rfl, rfl, rfl⟩ ⟨by rw [hA2, u2_ne (by decide)], by rw [hA2, u2_ne (by decide)], by rw [hA2, u2_ne (by decide)]⟩
      refine wp_aload_n dX10_toss_50 rfl 0 rfl ?_
      refine wp_aload_n dX10_toss_51 rfl 0 rfl ?_
      refine wp_getO (q := 131) fX10_31 hR rfl (rfl) (by decide) (by decide) rfl dX10_toss_52 ?_
      refine wp_iload_n dX10_toss_55 rfl 1 rfl ?_
      refine wp_iload_n dX10_toss_56 rfl 2 rfl ?_
      refine wp_iload_n dX10_toss_57 rfl 3 rfl ?_
      refine wp_callV (mm_siteV (av := [.ref 131, .int (nI t), .int pl, .int lk]) hC lX10_195 (rfl) (by decide) ⟨_, rfl, rfl⟩ rfl rfl (Nat.le_of_ble_eq_true rfl) dX10_toss_58) (c_X10_goThrow l k _ _ _ _ 131 t pl lk (decS (qS Q)) (qB Q) hR (Or.inl rfl) hM2 hw hP2 hwS.1 hwS.2.2.2 htn) (by omega) (by decide) (by decide) ?_
      rintro F3 A3 _ _ ⟨hP3, h30, hf3, rfl, rfl⟩
      refine wp_aload_n dX10_toss_61 rfl 0 rfl ?_
      refine wp_getI fX10_152 rfl (rfl) (by decide) dX10_toss_62 ?_
      refine wp_top (x' := (throwP (qB Q) (decS (qS Q)) t pl lk).2) (h30) ?_
      exact wp_iret hC rfl rfl dX10_toss_65 (pI_ok (by unfold wToss; rw [if_pos hn9, if_neg c2, nI_clamp (by omega)]; obtain ⟨hX2, hy2⟩ := hX1.st (S := (throwP (qB Q) (decS (qS Q)) t pl lk).1) (hs2.trans hf3.S) hP3; exact ⟨rfl, hX2, hy1.trans hy2⟩))
    · refine wp_bipush (v := (-3)) dX10_toss_32 (by decide) ?_
      exact wp_iret hC rfl rfl dX10_toss_34 (pI_ok (by unfold wToss; rw [if_pos hn9, if_pos c2]; exact ⟨rfl, hX0, hy0⟩))
  · obtain ⟨hne, hn9⟩ := noTm_no c1
    refine wp_iload dX10_toss_19 4 rfl ?_
    exact wp_iret hC rfl rfl dX10_toss_21 (pI_ok (by unfold wToss; rw [if_neg hn9, hne]; exact ⟨rfl, hX0, hy0⟩))

theorem setS_3 (S : SV) (h : Nat) : (setS S h).2.2 3 = S.2.2 3 := by
  unfold setS; split
  · rfl
  · simp [va_up]
theorem nailS_3 (S : SV) (h : Nat) : (nailS S h).2.2 3 = S.2.2 3 := by
  unfold nailS; split
  · simp [va_up]
  · rfl
set_option maxRecDepth 100000 in
set_option maxHeartbeats 600000 in
theorem c_X10_set (l : Launch) (k : Nat) (F A : mmF) (R : mmR) (G : mmG) (x : Int32) (Q : QV) (hX : RepM F A R G Q) (hwf : wfQ Q) : Meets l hX10_set (k + 2) 144 144 [.ref 123, .int x] F A R G (pI (fun v F1 A1 R1 G1 => v = (wSet Q x).2 ∧ RepM F1 A1 R1 G1 (wSet Q x).1 ∧ frY F A R G F1 A1 R1 G1)) := by
  refine mm_start rfl (Nat.le_of_ble_eq_true rfl) (fun X hC => ?_)
  show WP hX10_set X 144 0 [(0, .ref 123), (1, .int x)] [] F A R G
  obtain ⟨hw60, hw, hwS, hwA, hwE, hwK⟩ := id hwf
  have hw1 := hw.1
  refine wp_aload_n dX10_set_0 rfl 0 rfl ?_
  refine wp_iconst (v := 0) dX10_set_1 (by decide) ?_
  refine wp_putI fX10_71 fn_10_0 rfl (rfl) (by decide) dX10_set_2 ?_
  obtain ⟨F0, hF0⟩ : ∃ z, z = u2 F 123 0 0 := ⟨_, rfl⟩
  rw [← hF0]
  have hs0 : scN F A F0 A := by rw [hF0]; exact scN.F (by decide)
  obtain ⟨hX0, hy0⟩ := hX.scr hs0
  obtain ⟨hR, ⟨hn, ht⟩, hM, hP, ⟨ha, hac⟩, ⟨he, hes⟩, hk, hg⟩ := id hX0
  refine wp_aload_n dX10_set_5 rfl 0 rfl ?_
  refine wp_iload_n dX10_set_6 rfl 1 rfl ?_
  refine wp_callP (e := if isIn x (nI (qB Q).1.1) = 0 then 1 else 0) (mm_siteV (av := [.int x]) hC lX10_179 (rfl) (by decide) ⟨_, rfl, rfl⟩ rfl rfl (Nat.le_of_ble_eq_true rfl) dX10_set_7) (c_X10_noHusk l k _ _ _ _ _ (qB Q) hM hw) (by omega) (by decide) ?_
  refine wp_if_eq 15 dX10_set_10 (by decide) (fun c1 => ?_) (fun c1 => ?_)
  · rw [ite01] at c1
    obtain ⟨h, hh, rfl⟩ := isIn_nat (by omega) c1
    refine wp_aload_n dX10_set_15 rfl 0 rfl ?_
    refine wp_getO (q := 131) fX10_31 hR rfl (rfl) (by decide) (by decide) rfl dX10_set_16 ?_
    refine wp_bipush (v := 12) dX10_set_19 (by decide) ?_
    refine wp_iald 12 (rfl) (rfl) (by decide) ((show 12 < 15 from by omega)) dX10_set_21 ?_
    refine wp_top (x' := (qS Q).2.2 2) (hP 12 (by decide)) ?_
    refine wp_iload_n dX10_set_22 rfl 1 rfl ?_
    refine wp_callP (e := bt ((qS Q).2.2 2) (nI h)) (mm_siteS (av := [.int ((qS Q).2.2 2), .int (nI h)]) hC lX10_144 rfl rfl (Nat.le_of_ble_eq_true rfl) dX10_set_23) (c_X10_has l (k + 1) _ _ _ _ ((qS Q).2.2 2) (nI h)) (by omega) (by decide) ?_
    refine wp_if_ne 32 dX10_set_26 (by decide) (fun c2 => ?_) (fun c2 => ?_)
    · refine wp_aload_n dX10_set_32 rfl 0 rfl ?_
      refine wp_callV (mm_siteV (av := []) hC lX10_192 (rfl) (by decide) ⟨_, rfl, rfl⟩ rfl rfl (Nat.le_of_ble_eq_true rfl) dX10_set_33) (c_X10_note l (k + 1) _ _ _ _ Q hX0 hwA.1) (by omega) (by decide) (by decide) ?_
      rintro F1 A1 _ _ ⟨hX1, hy1, rfl, rfl⟩
      have hy1 := hy0.trans hy1
      have hM : isM F1 A1 4 125 (qB Q) := hX1.2.2.1
      have hP : isP A1 131 (qS Q) := hX1.2.2.2.1
      refine wp_aload_n dX10_set_36 rfl 0 rfl ?_
      refine wp_getO (q := 131) fX10_31 hR rfl (rfl) (by decide) (by decide) rfl dX10_set_37 ?_
      refine wp_iload_n dX10_set_40 rfl 1 rfl ?_
      refine wp_callV (mm_siteS (av := [.ref 131, .int (nI h)]) hC lX10_155 rfl rfl (Nat.le_of_ble_eq_true rfl) dX10_set_41) (c_X10_stand l (k + 1) _ _ _ _ 131 h (qS Q) (Or.inl rfl) hP hwS.1 (by omega) c2) (by omega) (by decide) (by decide) ?_
      rintro F1 A2 _ _ ⟨rfl, hP2, hr2, rfl, rfl⟩
      have hs2 : scM 999 131 999 999 F1 A1 F1 A2 := ⟨fun _ _ => rfl, fun _ _ _ => rfl, fun r _ hr _ _ => hr2 r hr⟩
      have hM2 : isM F1 A2 4 125 (qB Q) := isM_c hM ⟨rfl, rfl, rfl⟩ ⟨hr2 _ (by decide), hr2 _ (by decide), hr2 _ (by decide)⟩
      refine wp_aload_n dX10_set_44 rfl 0 rfl ?_
      refine wp_aload_n dX10_set_45 rfl 0 rfl ?_
      refine wp_getO (q := 131) fX10_31 hR rfl (rfl) (by decide) (by decide) rfl dX10_set_46 ?_
      refine wp_iload_n dX10_set_49 rfl 1 rfl ?_
      refine wp_callP (e := firmB (qB Q) (setS (qS Q) h) h) (mm_siteV (av := [.ref 131, .int (nI h)]) hC lX10_170 (rfl) (by decide) ⟨_, rfl, rfl⟩ rfl rfl (Nat.le_of_ble_eq_true rfl) dX10_set_50) (c_X10_firm l k _ _ _ _ 131 h (setS (qS Q) h) (qB Q) hR (Or.inl rfl) hM2 hw hP2 hh (by rw [setS_3]; exact hwS.2.2.2 h hh)) (by omega) (by decide) ?_
      exact wp_iret hC rfl rfl dX10_set_53 (pI_ok (by unfold wSet; rw [if_neg c1, if_neg c2, nI_clamp (by omega)]; obtain ⟨hX2, hy2⟩ := hX1.st (S := setS (qS Q) h) hs2 hP2; exact ⟨rfl, hX2, hy1.trans hy2⟩))
    · refine wp_bipush (v := (-3)) dX10_set_29 (by decide) ?_
      exact wp_iret hC rfl rfl dX10_set_31 (pI_ok (by unfold wSet; rw [if_neg c1, if_pos c2]; exact ⟨rfl, hX0, hy0⟩))
  · rw [ite01, Classical.not_not] at c1
    refine wp_iconst (v := (-1)) dX10_set_13 (by decide) ?_
    exact wp_iret hC rfl rfl dX10_set_14 (pI_ok (by unfold wSet; rw [if_pos c1]; exact ⟨rfl, hX0, hy0⟩))

set_option maxRecDepth 100000 in
set_option maxHeartbeats 600000 in
theorem c_X10_nail (l : Launch) (k : Nat) (F A : mmF) (R : mmR) (G : mmG) (x : Int32) (Q : QV) (hX : RepM F A R G Q) (hwf : wfQ Q) : Meets l hX10_nail (k + 2) 144 144 [.ref 123, .int x] F A R G (pI (fun v F1 A1 R1 G1 => v = (wNail Q x).2 ∧ RepM F1 A1 R1 G1 (wNail Q x).1 ∧ frY F A R G F1 A1 R1 G1)) := by
  refine mm_start rfl (Nat.le_of_ble_eq_true rfl) (fun X hC => ?_)
  show WP hX10_nail X 144 0 [(0, .ref 123), (1, .int x)] [] F A R G
  obtain ⟨hw60, hw, hwS, hwA, hwE, hwK⟩ := id hwf
  have hw1 := hw.1
  refine wp_aload_n dX10_nail_0 rfl 0 rfl ?_
  refine wp_iconst (v := 0) dX10_nail_1 (by decide) ?_
  refine wp_putI fX10_71 fn_10_0 rfl (rfl) (by decide) dX10_nail_2 ?_
  obtain ⟨F0, hF0⟩ : ∃ z, z = u2 F 123 0 0 := ⟨_, rfl⟩
  rw [← hF0]
  have hs0 : scN F A F0 A := by rw [hF0]; exact scN.F (by decide)
  obtain ⟨hX0, hy0⟩ := hX.scr hs0
  obtain ⟨hR, ⟨hn, ht⟩, hM, hP, ⟨ha, hac⟩, ⟨he, hes⟩, hk, hg⟩ := id hX0
  refine wp_aload_n dX10_nail_5 rfl 0 rfl ?_
  refine wp_iload_n dX10_nail_6 rfl 1 rfl ?_
  refine wp_callP (e := if isIn x (nI (qB Q).1.1) = 0 then 1 else 0) (mm_siteV (av := [.int x]) hC lX10_179 (rfl) (by decide) ⟨_, rfl, rfl⟩ rfl rfl (Nat.le_of_ble_eq_true rfl) dX10_nail_7) (c_X10_noHusk l k _ _ _ _ _ (qB Q) hM hw) (by omega) (by decide) ?_
  refine wp_if_eq 15 dX10_nail_10 (by decide) (fun c1 => ?_) (fun c1 => ?_)
  · rw [ite01] at c1
    obtain ⟨h, hh, rfl⟩ := isIn_nat (by omega) c1
    refine wp_aload_n dX10_nail_15 rfl 0 rfl ?_
    refine wp_getO (q := 131) fX10_31 hR rfl (rfl) (by decide) (by decide) rfl dX10_nail_16 ?_
    refine wp_bipush (v := 12) dX10_nail_19 (by decide) ?_
    refine wp_iald 12 (rfl) (rfl) (by decide) ((show 12 < 15 from by omega)) dX10_nail_21 ?_
    refine wp_top (x' := (qS Q).2.2 2) (hP 12 (by decide)) ?_
    refine wp_iload_n dX10_nail_22 rfl 1 rfl ?_
    refine wp_callP (e := bt ((qS Q).2.2 2) (nI h)) (mm_siteS (av := [.int ((qS Q).2.2 2), .int (nI h)]) hC lX10_144 rfl rfl (Nat.le_of_ble_eq_true rfl) dX10_nail_23) (c_X10_has l (k + 1) _ _ _ _ ((qS Q).2.2 2) (nI h)) (by omega) (by decide) ?_
    refine wp_if_eq 32 dX10_nail_26 (by decide) (fun c2 => ?_) (fun c2 => ?_)
    · refine wp_aload_n dX10_nail_32 rfl 0 rfl ?_
      refine wp_callV (mm_siteV (av := []) hC lX10_192 (rfl) (by decide) ⟨_, rfl, rfl⟩ rfl rfl (Nat.le_of_ble_eq_true rfl) dX10_nail_33) (c_X10_note l (k + 1) _ _ _ _ Q hX0 hwA.1) (by omega) (by decide) (by decide) ?_
      rintro F1 A1 _ _ ⟨hX1, hy1, rfl, rfl⟩
      have hy1 := hy0.trans hy1
      have hM : isM F1 A1 4 125 (qB Q) := hX1.2.2.1
      have hP : isP A1 131 (qS Q) := hX1.2.2.2.1
      refine wp_aload_n dX10_nail_36 rfl 0 rfl ?_
      refine wp_getO (q := 131) fX10_31 hR rfl (rfl) (by decide) (by decide) rfl dX10_nail_37 ?_
      refine wp_bipush (v := 11) dX10_nail_40 (by decide) ?_
      refine wp_dup2 dX10_nail_42 rfl rfl ?_
      refine wp_iald 11 (rfl) (rfl) (by decide) ((show 11 < 15 from by omega)) dX10_nail_43 ?_
      refine wp_top (x' := (qS Q).2.2 4) (hP 11 (by decide)) ?_
      refine wp_iconst (v := 1) dX10_nail_44 (by decide) ?_
      refine wp_iload_n dX10_nail_45 rfl 1 rfl ?_
      refine wp_ishl dX10_nail_46 ?_
      refine wp_ixor dX10_nail_47 ?_
      refine wp_iast 11 (rfl) (rfl) (by decide) ((show 11 < 15 from by omega)) dX10_nail_48 ?_
      obtain ⟨A2, hA2⟩ : ∃ z, z = u2 A1 131 11 (((qS Q).2.2 4) ^^^ (1 <<< ((nI h) &&& 31))) := ⟨_, rfl⟩
      rw [← hA2]
      have hP2 : isP A2 131 (nailS (qS Q) h) := by unfold nailS; rw [if_pos c2, hA2]; exact isP_11 hP
      have hs2 : scM 999 131 999 999 F1 A1 F1 A2 := ⟨fun _ _ => rfl, fun _ _ _ => rfl, fun r _ hr _ _ => by rw [hA2, u2_ne hr]⟩
      have hM2 : isM F1 A2 4 125 (qB Q) := isM_c hM ⟨rfl, rfl, rfl⟩ ⟨by rw [hA2, u2_ne (by decide)], by rw [hA2, u2_ne (by decide)], by rw [hA2, u2_ne (by decide)]⟩
      refine wp_aload_n dX10_nail_49 rfl 0 rfl ?_
      refine wp_aload_n dX10_nail_50 rfl 0 rfl ?_
      refine wp_getO (q := 131) fX10_31 hR rfl (rfl) (by decide) (by decide) rfl dX10_nail_51 ?_
      refine wp_iload_n dX10_nail_54 rfl 1 rfl ?_
      refine wp_callP (e := firmB (qB Q) (nailS (qS Q) h) h) (mm_siteV (av := [.ref 131, .int (nI h)]) hC lX10_170 (rfl) (by decide) ⟨_, rfl, rfl⟩ rfl rfl (Nat.le_of_ble_eq_true rfl) dX10_nail_55) (c_X10_firm l k _ _ _ _ 131 h (nailS (qS Q) h) (qB Q) hR (Or.inl rfl) hM2 hw hP2 hh (by rw [nailS_3]; exact hwS.2.2.2 h hh)) (by omega) (by decide) ?_
      exact wp_iret hC rfl rfl dX10_nail_58 (pI_ok (by unfold wNail; rw [if_neg c1, if_pos c2, nI_clamp (by omega)]; obtain ⟨hX2, hy2⟩ := hX1.st (S := nailS (qS Q) h) hs2 hP2; exact ⟨rfl, hX2, hy1.trans hy2⟩))
    · refine wp_bipush (v := (-3)) dX10_nail_29 (by decide) ?_
      exact wp_iret hC rfl rfl dX10_nail_31 (pI_ok (by unfold wNail; rw [if_neg c1, if_neg c2]; exact ⟨rfl, hX0, hy0⟩))
  · rw [ite01, Classical.not_not] at c1
    refine wp_iconst (v := (-1)) dX10_nail_13 (by decide) ?_
    exact wp_iret hC rfl rfl dX10_nail_14 (pI_ok (by unfold wNail; rw [if_pos c1]; exact ⟨rfl, hX0, hy0⟩))

theorem pay_eq {n : Nat} (hn : n ≤ 9) (h9 : n ≠ 9) : nI n < 9 ∧ (if (9 : Int32) < nI n + 3 then (9 : Int32) else nI n + 3) = if nI n + 3 < 9 then nI n + 3 else 9 := by
  have : ∀ n, n ≤ 9 → n ≠ 9 → nI n < 9 ∧ (if (9 : Int32) < nI n + 3 then (9 : Int32) else nI n + 3) = if nI n + 3 < 9 then nI n + 3 else 9 := by decide +kernel
  exact this n hn h9
set_option maxRecDepth 100000 in
set_option maxHeartbeats 600000 in
theorem c_X10_pay (l : Launch) (k : Nat) (F A : mmF) (R : mmR) (G : mmG)  (Q : QV) (hX : RepM F A R G Q) (hwf : wfQ Q) : Meets l hX10_pay (k + 1) 144 144 [.ref 123] F A R G (pI (fun v F1 A1 R1 G1 => v = (wPay Q).2 ∧ RepM F1 A1 R1 G1 (wPay Q).1 ∧ frY F A R G F1 A1 R1 G1)) := by
  refine mm_start rfl (Nat.le_of_ble_eq_true rfl) (fun X hC => ?_)
  show WP hX10_pay X 144 0 [(0, .ref 123)] [] F A R G
  obtain ⟨hw60, hw, hwS, hwA, hwE, hwK⟩ := id hwf
  have hw1 := hw.1
  refine wp_aload_n dX10_pay_0 rfl 0 rfl ?_
  refine wp_iconst (v := 0) dX10_pay_1 (by decide) ?_
  refine wp_putI fX10_71 fn_10_0 rfl (rfl) (by decide) dX10_pay_2 ?_
  obtain ⟨F0, hF0⟩ : ∃ z, z = u2 F 123 0 0 := ⟨_, rfl⟩
  rw [← hF0]
  have hs0 : scN F A F0 A := by rw [hF0]; exact scN.F (by decide)
  obtain ⟨hX0, hy0⟩ := hX.scr hs0
  obtain ⟨hR, ⟨hn, ht⟩, hM, hP, ⟨ha, hac⟩, ⟨he, hes⟩, hk, hg⟩ := id hX0
  refine wp_aload_n dX10_pay_5 rfl 0 rfl ?_
  refine wp_getO (q := 131) fX10_31 hR rfl (rfl) (by decide) (by decide) rfl dX10_pay_6 ?_
  refine wp_bipush (v := 14) dX10_pay_9 (by decide) ?_
  refine wp_iald 14 (rfl) (rfl) (by decide) ((show 14 < 15 from by omega)) dX10_pay_11 ?_
  refine wp_top (x' := (qS Q).2.2 6) (hP 14 (by decide)) ?_
  refine wp_bipush (v := 9) dX10_pay_12 (by decide) ?_
  refine wp_icmp_ne 20 dX10_pay_14 (by decide) (fun c1 => ?_) (fun c1 => ?_)
  · refine wp_aload_n dX10_pay_20 rfl 0 rfl ?_
    refine wp_callV (mm_siteV (av := []) hC lX10_192 (rfl) (by decide) ⟨_, rfl, rfl⟩ rfl rfl (Nat.le_of_ble_eq_true rfl) dX10_pay_21) (c_X10_note l k _ _ _ _ Q hX0 hwA.1) (by omega) (by decide) (by decide) ?_
    rintro F1 A1 _ _ ⟨hX1, hy1, rfl, rfl⟩
    have hy1 := hy0.trans hy1
    have hM : isM F1 A1 4 125 (qB Q) := hX1.2.2.1
    have hP : isP A1 131 (qS Q) := hX1.2.2.2.1
    refine wp_aload_n dX10_pay_24 rfl 0 rfl ?_
    refine wp_getO (q := 131) fX10_31 hR rfl (rfl) (by decide) (by decide) rfl dX10_pay_25 ?_
    refine wp_bipush (v := 14) dX10_pay_28 (by decide) ?_
    refine wp_aload_n dX10_pay_30 rfl 0 rfl ?_
    refine wp_getO (q := 131) fX10_31 hR rfl (rfl) (by decide) (by decide) rfl dX10_pay_31 ?_
    refine wp_bipush (v := 14) dX10_pay_34 (by decide) ?_
    refine wp_iald 14 (rfl) (rfl) (by decide) ((show 14 < 15 from by omega)) dX10_pay_36 ?_
    refine wp_top (x' := (qS Q).2.2 6) (hP 14 (by decide)) ?_
    refine wp_callP (e := if (9 : Int32) < (qS Q).2.2 6 + 3 then 9 else (qS Q).2.2 6 + 3) (mm_siteS (av := [.int ((qS Q).2.2 6)]) hC lX10_199 rfl rfl (Nat.le_of_ble_eq_true rfl) dX10_pay_37) (c_X10_paidMore l k _ _ _ _ ((qS Q).2.2 6)) (by omega) (by decide) ?_
    refine wp_iast 14 (rfl) (rfl) (by decide) ((show 14 < 15 from by omega)) dX10_pay_40 ?_
    obtain ⟨A2, hA2⟩ : ∃ z, z = u2 A1 131 14 (if (9 : Int32) < (qS Q).2.2 6 + 3 then 9 else (qS Q).2.2 6 + 3) := ⟨_, rfl⟩
    rw [← hA2]
    obtain ⟨pd, hpd, hpe⟩ := hwS.2.1
    have hpq := pay_eq hpd (fun e => c1 (by rw [hpe, e]; rfl))
    rw [← hpe] at hpq
    have hP2 : isP A2 131 (payS (qS Q)) := by unfold payS; rw [if_pos hpq.1, ← hpq.2, hA2]; exact isP_14 hP
    have hs2 : scM 999 131 999 999 F1 A1 F1 A2 := ⟨fun _ _ => rfl, fun _ _ _ => rfl, fun r _ hr _ _ => by rw [hA2, u2_ne hr]⟩
    refine wp_aload_n dX10_pay_41 rfl 0 rfl ?_
    refine wp_getO (q := 131) fX10_31 hR rfl (rfl) (by decide) (by decide) rfl dX10_pay_42 ?_
    refine wp_bipush (v := 14) dX10_pay_45 (by decide) ?_
    refine wp_iald 14 (rfl) (rfl) (by decide) ((show 14 < 15 from by omega)) dX10_pay_47 ?_
    refine wp_top (x' := (payS (qS Q)).2.2 6) (hP2 14 (by decide)) ?_
    exact wp_iret hC rfl rfl dX10_pay_48 (pI_ok (by unfold wPay; rw [if_pos hpq.1]; obtain ⟨hX2, hy2⟩ := hX1.st (S := payS (qS Q)) hs2 hP2; exact ⟨rfl, hX2, hy1.trans hy2⟩))
  · refine wp_bipush (v := (-3)) dX10_pay_17 (by decide) ?_
    exact wp_iret hC rfl rfl dX10_pay_19 (pI_ok (by unfold wPay; rw [if_neg (by rw [c1]; decide)]; exact ⟨rfl, hX0, hy0⟩))

theorem wBlow_no {Q : QV} {x : Int32} (h : inP x 0 2 = 0) : wBlow Q x = (Q, -2) := by
  unfold wBlow
  rcases inP_0 h with h | ⟨h, h2⟩
  · rw [if_pos h]
  · rw [if_neg h, if_neg (Int32.not_le.mpr h2)]
set_option maxRecDepth 100000 in
set_option maxHeartbeats 600000 in
theorem c_X10_blow (l : Launch) (k : Nat) (F A : mmF) (R : mmR) (G : mmG) (x : Int32) (Q : QV) (hX : RepM F A R G Q) (hwf : wfQ Q) : Meets l hX10_blow (k + 1) 144 144 [.ref 123, .int x] F A R G (pI (fun v F1 A1 R1 G1 => v = (wBlow Q x).2 ∧ RepM F1 A1 R1 G1 (wBlow Q x).1 ∧ frY F A R G F1 A1 R1 G1)) := by
  refine mm_start rfl (Nat.le_of_ble_eq_true rfl) (fun X hC => ?_)
  show WP hX10_blow X 144 0 [(0, .ref 123), (1, .int x)] [] F A R G
  obtain ⟨hw60, hw, hwS, hwA, hwE, hwK⟩ := id hwf
  have hw1 := hw.1
  refine wp_aload_n dX10_blow_0 rfl 0 rfl ?_
  refine wp_iconst (v := 0) dX10_blow_1 (by decide) ?_
  refine wp_putI fX10_71 fn_10_0 rfl (rfl) (by decide) dX10_blow_2 ?_
  obtain ⟨F0, hF0⟩ : ∃ z, z = u2 F 123 0 0 := ⟨_, rfl⟩
  rw [← hF0]
  have hs0 : scN F A F0 A := by rw [hF0]; exact scN.F (by decide)
  obtain ⟨hX0, hy0⟩ := hX.scr hs0
  obtain ⟨hR, ⟨hn, ht⟩, hM, hP, ⟨ha, hac⟩, ⟨he, hes⟩, hk, hg⟩ := id hX0
  refine wp_iload_n dX10_blow_5 rfl 1 rfl ?_
  refine wp_i2l dX10_blow_6 ?_
  refine wp_lconst (v := 0) dX10_blow_7 rfl ?_
  refine wp_topL (x' := (0 : Int32).toInt64) (by decide) ?_
  refine wp_ldc2 (v := 2) k_932 dX10_blow_8 ?_
  refine wp_topL (x' := (2 : Int32).toInt64) (by decide) ?_
  refine wp_callP (e := inP x 0 2) (mm_siteS (av := [.long x.toInt64, .long ((0 : Int32).toInt64), .long ((2 : Int32).toInt64)]) hC lX10_78 rfl rfl (Nat.le_of_ble_eq_true rfl) dX10_blow_11) (c_X10_in l k _ _ _ _ x 0 2) (by omega) (by decide) ?_
  refine wp_if_ne 20 dX10_blow_14 (by decide) (fun c1 => ?_) (fun c1 => ?_)
  · refine wp_aload_n dX10_blow_20 rfl 0 rfl ?_
    refine wp_getO (q := 131) fX10_31 hR rfl (rfl) (by decide) (by decide) rfl dX10_blow_21 ?_
    refine wp_bipush (v := 13) dX10_blow_24 (by decide) ?_
    refine wp_iald 13 (rfl) (rfl) (by decide) ((show 13 < 15 from by omega)) dX10_blow_26 ?_
    refine wp_top (x' := (qS Q).2.2 5) (hP 13 (by decide)) ?_
    refine wp_istore_n [1, 2, 0] (by decide) rfl rfl rfl dX10_blow_27 rfl ?_
    refine wp_iload_n dX10_blow_28 rfl 2 rfl ?_
    refine wp_iload_n dX10_blow_29 rfl 1 rfl ?_
    refine wp_icmp_ne 36 dX10_blow_30 (by decide) (fun c2 => ?_) (fun c2 => ?_)
    · refine wp_aload_n dX10_blow_36 rfl 0 rfl ?_
      refine wp_callV (mm_siteV (av := []) hC lX10_192 (rfl) (by decide) ⟨_, rfl, rfl⟩ rfl rfl (Nat.le_of_ble_eq_true rfl) dX10_blow_37) (c_X10_note l k _ _ _ _ Q hX0 hwA.1) (by omega) (by decide) (by decide) ?_
      rintro F1 A1 _ _ ⟨hX1, hy1, rfl, rfl⟩
      have hy1 := hy0.trans hy1
      have hM : isM F1 A1 4 125 (qB Q) := hX1.2.2.1
      have hP : isP A1 131 (qS Q) := hX1.2.2.2.1
      refine wp_aload_n dX10_blow_40 rfl 0 rfl ?_
      refine wp_getO (q := 131) fX10_31 hR rfl (rfl) (by decide) (by decide) rfl dX10_blow_41 ?_
      refine wp_bipush (v := 13) dX10_blow_44 (by decide) ?_
      refine wp_iload_n dX10_blow_46 rfl 1 rfl ?_
      refine wp_iast 13 (rfl) (rfl) (by decide) ((show 13 < 15 from by omega)) dX10_blow_47 ?_
      obtain ⟨A2, hA2⟩ : ∃ z, z = u2 A1 131 13 x := ⟨_, rfl⟩
      rw [← hA2]
      have hP2 : isP A2 131 (windS (qS Q) x) := by rw [hA2]; exact isP_13 hP
      have hs2 : scM 999 131 999 999 F1 A1 F1 A2 := ⟨fun _ _ => rfl, fun _ _ _ => rfl, fun r _ hr _ _ => by rw [hA2, u2_ne hr]⟩
      have hM2 : isM F1 A2 4 125 (qB Q) := isM_c hM ⟨rfl, rfl, rfl⟩ ⟨by rw [hA2, u2_ne (by decide)], by rw [hA2, u2_ne (by decide)], by rw [hA2, u2_ne (by decide)]⟩
      refine wp_iload_n dX10_blow_48 rfl 2 rfl ?_
      exact wp_iret hC rfl rfl dX10_blow_49 (pI_ok (by unfold wBlow; rw [if_neg (inP_1 c1).1, if_pos (Int32.not_lt.mp (inP_1 c1).2), if_neg (fun e => c2 e.symm)]; obtain ⟨hX2, hy2⟩ := hX1.st (S := windS (qS Q) x) hs2 hP2; exact ⟨rfl, hX2, hy1.trans hy2⟩))
    · refine wp_bipush (v := (-3)) dX10_blow_33 (by decide) ?_
      exact wp_iret hC rfl rfl dX10_blow_35 (pI_ok (by unfold wBlow; rw [if_neg (inP_1 c1).1, if_pos (Int32.not_lt.mp (inP_1 c1).2), if_pos c2.symm]; exact ⟨rfl, hX0, hy0⟩))
  · refine wp_bipush (v := (-2)) dX10_blow_17 (by decide) ?_
    exact wp_iret hC rfl rfl dX10_blow_19 (pI_ok (by rw [wBlow_no c1]; exact ⟨rfl, hX0, hy0⟩))

set_option maxRecDepth 100000 in
set_option maxHeartbeats 600000 in
theorem c_X10_undo (l : Launch) (k : Nat) (F A : mmF) (R : mmR) (G : mmG)  (Q : QV) (hX : RepM F A R G Q) (hwf : wfQ Q) : Meets l hX10_undo k 144 144 [.ref 123] F A R G (pI (fun v F1 A1 R1 G1 => v = (wUndo Q).2 ∧ RepM F1 A1 R1 G1 (wUndo Q).1 ∧ frY F A R G F1 A1 R1 G1)) := by
  refine mm_start rfl (Nat.le_of_ble_eq_true rfl) (fun X hC => ?_)
  show WP hX10_undo X 144 0 [(0, .ref 123)] [] F A R G
  obtain ⟨hw60, hw, hwS, hwA, hwE, hwK⟩ := id hwf
  have hw1 := hw.1
  have hl14 := hwA.1
  refine wp_aload_n dX10_undo_0 rfl 0 rfl ?_
  refine wp_iconst (v := 0) dX10_undo_1 (by decide) ?_
  refine wp_putI fX10_71 fn_10_0 rfl (rfl) (by decide) dX10_undo_2 ?_
  obtain ⟨F0, hF0⟩ : ∃ z, z = u2 F 123 0 0 := ⟨_, rfl⟩
  rw [← hF0]
  have hs0 : scN F A F0 A := by rw [hF0]; exact scN.F (by decide)
  obtain ⟨hX0, hy0⟩ := hX.scr hs0
  obtain ⟨hR, ⟨hn, ht⟩, hM, hP, ⟨ha, hac⟩, ⟨he, hes⟩, hk, hg⟩ := id hX0
  refine wp_aload_n dX10_undo_5 rfl 0 rfl ?_
  refine wp_getI fX10_141 rfl (rfl) (by decide) dX10_undo_6 ?_
  refine wp_top (x' := nI (qA Q).length) (ha) ?_
  refine wp_if_ne 15 dX10_undo_9 (by decide) (fun c1 => ?_) (fun c1 => ?_)
  · replace c1 := mt (ix_eq (a := (qA Q).length) (b := 0) (rfl) (rfl) (by omega) (by omega)).mpr c1
    refine wp_aload_n dX10_undo_15 rfl 0 rfl ?_
    refine wp_dup dX10_undo_16 rfl ?_
    refine wp_getI fX10_141 rfl (rfl) (by decide) dX10_undo_17 ?_
    refine wp_top (x' := nI (qA Q).length) (ha) ?_
    refine wp_iconst (v := 1) dX10_undo_20 (by decide) ?_
    refine wp_isub dX10_undo_21 ?_
    refine wp_top (x' := nI ((qA Q).length - 1)) (ix_sub (a := (qA Q).length) (b := 1) rfl rfl (by omega)) ?_
    refine wp_putI fX10_141 fn_10_22 rfl (rfl) (by decide) dX10_undo_22 ?_
    obtain ⟨F1, hF1⟩ : ∃ z, z = u2 F0 123 22 (nI ((qA Q).length - 1)) := ⟨_, rfl⟩
    rw [← hF1]
    have h22 : F1 123 22 = nI ((qA Q).length - 1) := by rw [hF1, u2_row]; exact va_up_self _ _ _
    refine wp_iconst (v := 0) dX10_undo_25 (by decide) ?_
    refine wp_istore_n [1, 0] (by decide) rfl rfl rfl dX10_undo_26 rfl ?_
    have lp : ∀ (nn : Nat) (j : Nat) (A1 : mmF), (j ≤ 15) → (∀ k, k < j → A1 131 k = A 134 (15 * ((qA Q).length - 1) + k)) → (∀ r, r ≠ 131 → A1 r = A r) → 15 - j < nn → WP hX10_undo X 144 27 [(0, .ref 123), (1, .int (nI j))] [] F1 A1 R G := by
      intro nn
      induction nn with
      | zero => intro j A1 _ _ _ hm; exact absurd hm (Nat.not_lt_zero _)
      | succ nn ih_lp =>
        intro j A1 hj hlo hr1 hm_lp
        refine wp_iload_n dX10_undo_27 rfl 1 rfl ?_
        refine wp_bipush (v := 15) dX10_undo_28 (by decide) ?_
        refine wp_icmp_ge 59 dX10_undo_30 (by decide) (fun c2 => ?_) (fun c2 => ?_)
        · replace c2 := (ix_le (a := 15) (b := j) (rfl) (rfl) (by omega) (by omega)).mp c2
          refine wp_aload_n dX10_undo_59 rfl 0 rfl ?_
          refine wp_getI fX10_141 rfl (rfl) (by decide) dX10_undo_60 ?_
          refine wp_top (x' := nI ((qA Q).length - 1)) (h22) ?_
          exact wp_iret hC rfl rfl dX10_undo_63 (pI_ok (by
    unfold wUndo; rw [if_neg c1]
    have hlast : (qA Q)[(qA Q).length - 1]? = some ((qA Q)[(qA Q).length - 1]?.getD (qS Q)) := by rw [List.getElem?_eq_getElem (by omega)]; rfl
    obtain ⟨hX1, hy1⟩ := hX0.un (F1 := F1) (A1 := A1) (S := (qA Q)[(qA Q).length - 1]?.getD (qS Q)) (a := (qA Q).dropLast) ⟨fun r hr => by rw [hF1, u2_ne hr], fun j _ hj => by rw [hF1, u2_row, va_up_ne _ _ hj], fun r _ hr _ _ => hr1 r hr⟩ (fun k hk => by rw [hlo k (by omega)]; exact hac _ _ hlast k hk) (by rw [h22, List.length_dropLast]) (fun i S hi => by
      have hl := (List.getElem?_eq_some_iff.mp hi).1
      rw [List.length_dropLast] at hl
      rwa [List.getElem?_dropLast, if_pos (by omega)] at hi)
    exact ⟨rfl, hX1, hy0.trans hy1⟩))
        · replace c2 := mt (ix_le (a := 15) (b := j) (rfl) (rfl) (by omega) (by omega)).mpr c2
          refine wp_aload_n dX10_undo_33 rfl 0 rfl ?_
          refine wp_getO (q := 131) fX10_31 hR rfl (rfl) (by decide) (by decide) rfl dX10_undo_34 ?_
          refine wp_iload_n dX10_undo_37 rfl 1 rfl ?_
          refine wp_aload_n dX10_undo_38 rfl 0 rfl ?_
          refine wp_getO (q := 134) fX10_40 hR rfl (rfl) (by decide) (by decide) rfl dX10_undo_39 ?_
          refine wp_bipush (v := 15) dX10_undo_42 (by decide) ?_
          refine wp_aload_n dX10_undo_44 rfl 0 rfl ?_
          refine wp_getI fX10_141 rfl (rfl) (by decide) dX10_undo_45 ?_
          refine wp_top (x' := nI ((qA Q).length - 1)) (h22) ?_
          refine wp_imul dX10_undo_48 ?_
          refine wp_iload_n dX10_undo_49 rfl 1 rfl ?_
          refine wp_iadd dX10_undo_50 ?_
          refine wp_iald ((15 * ((qA Q).length - 1)) + j) (ix_add (ix_mul rfl rfl) rfl) (rfl) (by decide) ((show (15 * ((qA Q).length - 1)) + j < 210 from by omega)) dX10_undo_51 ?_
          refine wp_iast j (rfl) (rfl) (by decide) ((show j < 15 from by omega)) dX10_undo_52 ?_
          refine wp_iinc (v := nI (j + 1)) 1 rfl (by exact nI_1 j) [1, 0] (by decide) rfl rfl rfl dX10_undo_53 ?_
          refine wp_goto 27 dX10_undo_56 (by decide) ?_
          exact ih_lp (j + 1) _ (by omega) (fun k hk => by rw [u2_row]; by_cases e : k = j; (rw [e, va_up_self, hr1 134 (by decide)]); (rw [va_up_ne _ _ e]; exact hlo k (by omega))) (fun r h => by rw [u2_ne h]; exact hr1 r h) (by omega)
    exact lp (15 + 1) 0 A (by decide) (fun _ h => absurd h (Nat.not_lt_zero _)) (fun _ _ => rfl) (by omega)
  · replace c1 := (ix_eq (a := (qA Q).length) (b := 0) (rfl) (rfl) (by omega) (by omega)).mp c1
    refine wp_bipush (v := (-3)) dX10_undo_12 (by decide) ?_
    exact wp_iret hC rfl rfl dX10_undo_14 (pI_ok (by unfold wUndo; rw [if_pos c1]; exact ⟨rfl, hX0, hy0⟩))

