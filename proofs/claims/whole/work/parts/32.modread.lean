theorem fig_lt {tx : Nat → Int32} {n i : Nat} {lo up : Int32} (hlo : (-9 : Int32) < lo) (h : ¬ figP tx n i lo up = -9) : i < n := by
  rcases Nat.lt_or_ge i n with h1 | h1
  · exact h1
  · refine absurd ?_ h
    unfold figP; rw [if_neg (show ¬ i < n by omega), if_pos (Int32.lt_trans (by decide) hlo)]
theorem isIn01 (x y : Int32) : isIn x y = 0 ∨ isIn x y = 1 := by
  unfold isIn; split
  · exact Or.inl rfl
  · split
    · exact Or.inl rfl
    · exact Or.inr rfl
theorem plc_fig {tx : Nat → Int32} {n i : Nat} {B : BV} (h : ¬ plcP tx n B i = -9) : plcP tx n B i = figP tx n i 0 7 ∧ ¬ figP tx n i 0 7 = -9 := by
  unfold plcP at h ⊢
  split at h
  · exact absurd rfl h
  · rename_i h1
    split at h
    · rename_i h2; rw [if_neg h1, if_pos h2]; exact ⟨rfl, h1⟩
    · exact absurd rfl h
theorem readHP_p {tx : Nat → Int32} {n p : Nat} {B : BV} (hb : B.1.1 < 5) : readHP tx n B p = if plcP tx n B (p + 1) = -9 then (B, nI (p + 1)) else if figP tx n (p + 2) 1 9 = -9 then (B, nI (p + 2)) else if figP tx n (p + 3) 0 3 = -9 then (B, nI (p + 3)) else (addH B (plcP tx n B (p + 1)) (figP tx n (p + 2) 1 9) (figP tx n (p + 3) 0 3), -9) := by
  unfold readHP plcP
  rw [if_pos hb]
  by_cases h1 : figP tx n (p + 1) 0 7 = -9
  · simp only [if_pos h1]; rfl
  · by_cases h2 : hAt (B.2 1) (figP tx n (p + 1) 0 7) 0 B.1.1 = -9
    · simp only [if_neg h1, if_pos h2]
    · simp only [if_neg h1, if_neg h2]; rfl
set_option maxRecDepth 100000 in
set_option maxHeartbeats 600000 in
theorem c_X10_figure (l : Launch) (k : Nat) (F A : mmF) (R : mmR) (G : mmG) (n : Nat) (tx : Nat → Int32) (pl : Nat) (hR : mm_RL R) (hn60 : n ≤ 60) (hn : F 123 2 = nI n) (ht : ∀ i, i < n → A 124 i = tx i) (h3 : F 123 3 = nI pl) (lo up : Int32) (hpl : pl ≤ n) (hlo : (-9 : Int32) < lo) : Meets l hX10_figure (k + 1) 144 144 [.ref 123, .int lo, .int up] F A R G (pI (fun v F1 A1 R1 G1 => v = figP tx n pl lo up ∧ F1 = (if figP tx n pl lo up = -9 then F else u2 F 123 3 (nI (pl + 1))) ∧ A1 = A ∧ R = R1 ∧ G = G1)) := by
  refine mm_start rfl (Nat.le_of_ble_eq_true rfl) (fun X hC => ?_)
  show WP hX10_figure X 144 0 [(0, .ref 123), (1, .int lo), (2, .int up)] [] F A R G
  refine wp_aload_n dX10_figure_0 rfl 0 rfl ?_
  refine wp_getI fX10_90 rfl (rfl) (by decide) dX10_figure_1 ?_
  refine wp_top (x' := nI (pl)) (h3) ?_
  refine wp_aload_n dX10_figure_4 rfl 0 rfl ?_
  refine wp_getI fX10_87 rfl (rfl) (by decide) dX10_figure_5 ?_
  refine wp_top (x' := nI n) (hn) ?_
  refine wp_icmp_eq 34 dX10_figure_8 (by decide) (fun c1 => ?_) (fun c1 => ?_)
  · replace c1 := (ix_eq (a := pl) (b := n) (rfl) (rfl) (by omega) (by omega)).mp c1
    refine wp_bipush (v := (-9)) dX10_figure_34 (by decide) ?_
    exact wp_iret hC rfl rfl dX10_figure_36 (pI_ok (by have e : figP tx n pl lo up = -9 := (by rw [c1]; exact fig_end hlo); exact ⟨e.symm, by rw [if_pos e], rfl, rfl, rfl⟩))
  · replace c1 := mt (ix_eq (a := pl) (b := n) (rfl) (rfl) (by omega) (by omega)).mpr c1
    refine wp_aload_n dX10_figure_11 rfl 0 rfl ?_
    refine wp_getO (q := 124) fX10_7 hR rfl (rfl) (by decide) (by decide) rfl dX10_figure_12 ?_
    refine wp_aload_n dX10_figure_15 rfl 0 rfl ?_
    refine wp_getI fX10_90 rfl (rfl) (by decide) dX10_figure_16 ?_
    refine wp_top (x' := nI (pl)) (h3) ?_
    refine wp_iald pl (rfl) (rfl) (by decide) ((show pl < 60 from by omega)) dX10_figure_19 ?_
    refine wp_top (x' := tx pl) (ht pl (by omega)) ?_
    refine wp_bipush (v := 48) dX10_figure_20 (by decide) ?_
    refine wp_isub dX10_figure_22 ?_
    refine wp_i2l dX10_figure_23 ?_
    refine wp_iload_n dX10_figure_24 rfl 1 rfl ?_
    refine wp_i2l dX10_figure_25 ?_
    refine wp_iload_n dX10_figure_26 rfl 2 rfl ?_
    refine wp_i2l dX10_figure_27 ?_
    refine wp_callP (e := inP ((tx pl) - 48) lo up) (mm_siteS (av := [.long (((tx pl) - 48).toInt64), .long lo.toInt64, .long up.toInt64]) hC lX10_78 rfl rfl (Nat.le_of_ble_eq_true rfl) dX10_figure_28) (c_X10_in l k _ _ _ _ ((tx pl) - 48) lo up) (by omega) (by decide) ?_
    refine wp_if_ne 37 dX10_figure_31 (by decide) (fun c2 => ?_) (fun c2 => ?_)
    · refine wp_aload_n dX10_figure_37 rfl 0 rfl ?_
      refine wp_dup dX10_figure_38 rfl ?_
      refine wp_getI fX10_90 rfl (rfl) (by decide) dX10_figure_39 ?_
      refine wp_top (x' := nI (pl)) (h3) ?_
      refine wp_iconst (v := 1) dX10_figure_42 (by decide) ?_
      refine wp_iadd dX10_figure_43 ?_
      refine wp_top (x' := nI (pl + 1)) (nI_1 pl) ?_
      refine wp_putI fX10_90 fn_10_3 rfl (rfl) (by decide) dX10_figure_44 ?_
      obtain ⟨F1, hF1⟩ : ∃ z, z = u2 F 123 3 (nI (pl + 1)) := ⟨_, rfl⟩
      rw [← hF1]
      have h3 : F1 123 3 = nI (pl + 1) := by rw [hF1, u2_row]; exact va_up_self _ _ _
      refine wp_aload_n dX10_figure_47 rfl 0 rfl ?_
      refine wp_getO (q := 124) fX10_7 hR rfl (rfl) (by decide) (by decide) rfl dX10_figure_48 ?_
      refine wp_aload_n dX10_figure_51 rfl 0 rfl ?_
      refine wp_getI fX10_90 rfl (rfl) (by decide) dX10_figure_52 ?_
      refine wp_top (x' := nI (pl + 1)) (h3) ?_
      refine wp_iconst (v := 1) dX10_figure_55 (by decide) ?_
      refine wp_isub dX10_figure_56 ?_
      refine wp_top (x' := nI pl) (ix_sub (a := pl + 1) (b := 1) rfl rfl (by omega)) ?_
      refine wp_iald pl (rfl) (rfl) (by decide) ((show pl < 60 from by omega)) dX10_figure_57 ?_
      refine wp_top (x' := tx pl) (ht pl (by omega)) ?_
      refine wp_bipush (v := 48) dX10_figure_58 (by decide) ?_
      refine wp_isub dX10_figure_60 ?_
      exact wp_iret hC rfl rfl dX10_figure_61 (pI_ok (by have e : figP tx n pl lo up = tx pl - 48 := (by rw [fig_in (by omega), if_neg c2]); have n9 : ¬ figP tx n pl lo up = -9 := (by rw [e]; exact ne9_of hlo (inP_ge c2)); exact ⟨e.symm, by rw [if_neg n9]; exact hF1, rfl, rfl, rfl⟩))
    · refine wp_bipush (v := (-9)) dX10_figure_34 (by decide) ?_
      exact wp_iret hC rfl rfl dX10_figure_36 (pI_ok (by have e : figP tx n pl lo up = -9 := (by rw [fig_in (by omega), if_pos c2]); exact ⟨e.symm, by rw [if_pos e], rfl, rfl, rfl⟩))

theorem c_X10_in8 (l : Launch) (k : Nat) (F A : mmF) (R : mmR) (G : mmG) (x : Int32) : Meets l hX10_in k 144 144 [.long x.toInt64, .long (0 : Int32).toInt64, .long (7 : Int32).toInt64] F A R G (pP (isIn x 8) F A R G) := by
  have := c_X10_in l k F A R G x 0 7
  rwa [in8] at this
set_option maxRecDepth 100000 in
set_option maxHeartbeats 600000 in
theorem c_X10_readPlace (l : Launch) (k : Nat) (F A : mmF) (R : mmR) (G : mmG) (n : Nat) (tx : Nat → Int32) (pl : Nat) (hR : mm_RL R) (hn60 : n ≤ 60) (hn : F 123 2 = nI n) (ht : ∀ i, i < n → A 124 i = tx i) (h3 : F 123 3 = nI pl) (B : BV) (hMr : isM F A 12 128 B) (hb5 : B.1.1 ≤ 5) (hpl : pl ≤ n) : Meets l hX10_readPlace (k + 1) 144 144 [.ref 123] F A R G (pI (fun v F1 A1 R1 G1 => v = plcP tx n B pl ∧ F1 = u2 F 123 3 (if plcP tx n B pl = -9 then nI pl else nI (pl + 1)) ∧ A1 = A ∧ R = R1 ∧ G = G1)) := by
  refine mm_start rfl (Nat.le_of_ble_eq_true rfl) (fun X hC => ?_)
  show WP hX10_readPlace X 144 0 [(0, .ref 123)] [] F A R G
  refine wp_aload_n dX10_readPlace_0 rfl 0 rfl ?_
  refine wp_getI fX10_90 rfl (rfl) (by decide) dX10_readPlace_1 ?_
  refine wp_top (x' := nI (pl)) (h3) ?_
  refine wp_aload_n dX10_readPlace_4 rfl 0 rfl ?_
  refine wp_getI fX10_87 rfl (rfl) (by decide) dX10_readPlace_5 ?_
  refine wp_top (x' := nI n) (hn) ?_
  refine wp_icmp_ne 16 dX10_readPlace_8 (by decide) (fun c1 => ?_) (fun c1 => ?_)
  · replace c1 := mt (ix_eq (a := pl) (b := n) (rfl) (rfl) (by omega) (by omega)).mpr c1
    refine wp_aload_n dX10_readPlace_16 rfl 0 rfl ?_
    refine wp_getO (q := 124) fX10_7 hR rfl (rfl) (by decide) (by decide) rfl dX10_readPlace_17 ?_
    refine wp_aload_n dX10_readPlace_20 rfl 0 rfl ?_
    refine wp_getI fX10_90 rfl (rfl) (by decide) dX10_readPlace_21 ?_
    refine wp_top (x' := nI (pl)) (h3) ?_
    refine wp_iald pl (rfl) (rfl) (by decide) ((show pl < 60 from by omega)) dX10_readPlace_24 ?_
    refine wp_top (x' := tx pl) (ht pl (by omega)) ?_
    refine wp_bipush (v := 48) dX10_readPlace_25 (by decide) ?_
    refine wp_isub dX10_readPlace_27 ?_
    refine wp_istore_n [1, 0] (by decide) rfl rfl rfl dX10_readPlace_28 rfl ?_
    refine wp_iload_n dX10_readPlace_29 rfl 1 rfl ?_
    refine wp_i2l dX10_readPlace_30 ?_
    refine wp_lconst (v := 0) dX10_readPlace_31 rfl ?_
    refine wp_topL (x' := (0 : Int32).toInt64) (by decide) ?_
    refine wp_ldc2 (v := 7) k_889 dX10_readPlace_32 ?_
    refine wp_topL (x' := (7 : Int32).toInt64) (by decide) ?_
    refine wp_callP (e := isIn ((tx pl) - 48) 8) (mm_siteS (av := [.long (((tx pl) - 48).toInt64), .long ((0 : Int32).toInt64), .long ((7 : Int32).toInt64)]) hC lX10_78 rfl rfl (Nat.le_of_ble_eq_true rfl) dX10_readPlace_35) (c_X10_in8 l k _ _ _ _ ((tx pl) - 48)) (by omega) (by decide) ?_
    refine wp_istore_n [1, 2, 0] (by decide) rfl rfl rfl dX10_readPlace_38 rfl ?_
    refine wp_iconst (v := 0) dX10_readPlace_39 (by decide) ?_
    refine wp_istore_n [1, 2, 3, 0] (by decide) rfl rfl rfl dX10_readPlace_40 rfl ?_
    have hvf : figP tx n pl 0 7 = if isIn ((tx pl) - 48) 8 = 0 then -9 else ((tx pl) - 48) := by rw [fig_in (by omega), in8]
    have lp : ∀ (nn : Nat) (i : Nat) (q : Int32), (i ≤ B.1.1) → ((q = 1 ∧ ¬ isIn ((tx pl) - 48) 8 = 0 ∧ ∀ j, j < i → B.2 1 j ≠ ((tx pl) - 48)) ∨ (q = 0 ∧ (isIn ((tx pl) - 48) 8 = 0 ∨ ∃ j, j < i ∧ B.2 1 j = ((tx pl) - 48)))) → B.1.1 - i < nn → WP hX10_readPlace X 144 41 [(0, .ref 123), (1, .int ((tx pl) - 48)), (2, .int q), (3, .int (nI i))] [] F A R G := by
      intro nn
      induction nn with
      | zero => intro i q _ _ hm; exact absurd hm (Nat.not_lt_zero _)
      | succ nn ih_lp =>
        intro i q hi hq hm_lp
        refine wp_iload_n dX10_readPlace_41 rfl 3 rfl ?_
        refine wp_aload_n dX10_readPlace_42 rfl 0 rfl ?_
        refine wp_getI fX10_95 rfl (rfl) (by decide) dX10_readPlace_43 ?_
        refine wp_top (x' := nI B.1.1) (hMr.1) ?_
        refine wp_icmp_ge 77 dX10_readPlace_46 (by decide) (fun c2 => ?_) (fun c2 => ?_)
        · replace c2 := (ix_le (a := B.1.1) (b := i) (rfl) (rfl) (by omega) (by omega)).mp c2
          refine wp_aload_n dX10_readPlace_77 rfl 0 rfl ?_
          refine wp_dup dX10_readPlace_78 rfl ?_
          refine wp_getI fX10_90 rfl (rfl) (by decide) dX10_readPlace_79 ?_
          refine wp_top (x' := nI (pl)) (h3) ?_
          refine wp_iload_n dX10_readPlace_82 rfl 2 rfl ?_
          refine wp_if_eq 90 dX10_readPlace_83 (by decide) (fun c3 => ?_) (fun c3 => ?_)
          · refine wp_iconst (v := 0) dX10_readPlace_90 (by decide) ?_
            refine wp_iadd dX10_readPlace_91 ?_
            refine wp_putI fX10_90 fn_10_3 rfl (rfl) (by decide) dX10_readPlace_92 ?_
            refine wp_iload_n dX10_readPlace_95 rfl 2 rfl ?_
            refine wp_if_eq 103 dX10_readPlace_96 (by decide) (fun c4 => ?_) (fun c4 => ?_)
            · refine wp_bipush (v := (-9)) dX10_readPlace_103 (by decide) ?_
              exact wp_iret hC rfl rfl dX10_readPlace_105 (pI_ok (by have e : plcP tx n B pl = -9 := (by rcases hq with ⟨h, -⟩ | ⟨-, h⟩; (rw [h] at c3; exact absurd c3 (by decide)); exact plc_no1 hvf (h.imp id (fun ⟨j, hj, e⟩ => ⟨j, by omega, e⟩)) hb5); exact ⟨e.symm, by rw [if_pos e, Int32.add_zero], rfl, rfl, rfl⟩))
            · exact absurd c3 c4
          · refine wp_iconst (v := 1) dX10_readPlace_86 (by decide) ?_
            refine wp_goto 91 dX10_readPlace_87 (by decide) ?_
            refine wp_iadd dX10_readPlace_91 ?_
            refine wp_putI fX10_90 fn_10_3 rfl (rfl) (by decide) dX10_readPlace_92 ?_
            refine wp_iload_n dX10_readPlace_95 rfl 2 rfl ?_
            refine wp_if_eq 103 dX10_readPlace_96 (by decide) (fun c5 => ?_) (fun c5 => ?_)
            · exact absurd c5 c3
            · refine wp_iload_n dX10_readPlace_99 rfl 1 rfl ?_
              refine wp_goto 105 dX10_readPlace_100 (by decide) ?_
              exact wp_iret hC rfl rfl dX10_readPlace_105 (pI_ok (by rcases hq with ⟨-, h1, h2⟩ | ⟨h, -⟩; (obtain ⟨e, e2⟩ := plc_yes hvf h1 (fun j hj => h2 j (by omega)); exact ⟨e.symm, by rw [e, if_neg e2, nI_1], rfl, rfl, rfl⟩); exact absurd h c3))
        · replace c2 := mt (ix_le (a := B.1.1) (b := i) (rfl) (rfl) (by omega) (by omega)).mpr c2
          refine wp_iload_n dX10_readPlace_49 rfl 2 rfl ?_
          refine wp_if_eq 69 dX10_readPlace_50 (by decide) (fun c6 => ?_) (fun c6 => ?_)
          · refine wp_iconst (v := 0) dX10_readPlace_69 (by decide) ?_
            refine wp_istore_n [1, 2, 0, 4] (by decide) rfl rfl rfl dX10_readPlace_70 rfl ?_
            refine wp_iinc (v := nI (i + 1)) 3 rfl (by exact nI_1 i) [1, 2, 3, 0] (by decide) rfl rfl rfl dX10_readPlace_71 ?_
            refine wp_goto 41 dX10_readPlace_74 (by decide) ?_
            exact ih_lp (i + 1) 0 (by omega) (Or.inr ⟨rfl, by rcases hq with ⟨h, -⟩ | ⟨-, h⟩; (rw [h] at c6; exact absurd c6 (by decide)); exact h.imp id (fun ⟨j, hj, e⟩ => ⟨j, by omega, e⟩)⟩) (by omega)
          · refine wp_aload_n dX10_readPlace_53 rfl 0 rfl ?_
            refine wp_getO (q := 128) fX10_22 hR rfl (rfl) (by decide) (by decide) rfl dX10_readPlace_54 ?_
            refine wp_iconst (v := 3) dX10_readPlace_57 (by decide) ?_
            refine wp_iload_n dX10_readPlace_58 rfl 3 rfl ?_
            refine wp_imul dX10_readPlace_59 ?_
            refine wp_iald (3 * i) (ix_mul rfl rfl) (rfl) (by decide) ((show 3 * i < 15 from by omega)) dX10_readPlace_60 ?_
            refine wp_top (x' := B.2 1 i) (hMr.2.2.2.1 i (by omega) 0 (by decide)) ?_
            refine wp_iload_n dX10_readPlace_61 rfl 1 rfl ?_
            refine wp_icmp_eq 69 dX10_readPlace_62 (by decide) (fun c7 => ?_) (fun c7 => ?_)
            · refine wp_iconst (v := 0) dX10_readPlace_69 (by decide) ?_
              refine wp_istore_n [1, 2, 0, 4] (by decide) rfl rfl rfl dX10_readPlace_70 rfl ?_
              refine wp_iinc (v := nI (i + 1)) 3 rfl (by exact nI_1 i) [1, 2, 3, 0] (by decide) rfl rfl rfl dX10_readPlace_71 ?_
              refine wp_goto 41 dX10_readPlace_74 (by decide) ?_
              exact ih_lp (i + 1) 0 (by omega) (Or.inr ⟨rfl, Or.inr ⟨i, by omega, c7⟩⟩) (by omega)
            · refine wp_iconst (v := 1) dX10_readPlace_65 (by decide) ?_
              refine wp_goto 70 dX10_readPlace_66 (by decide) ?_
              refine wp_istore_n [1, 2, 0, 4] (by decide) rfl rfl rfl dX10_readPlace_70 rfl ?_
              refine wp_iinc (v := nI (i + 1)) 3 rfl (by exact nI_1 i) [1, 2, 3, 0] (by decide) rfl rfl rfl dX10_readPlace_71 ?_
              refine wp_goto 41 dX10_readPlace_74 (by decide) ?_
              exact ih_lp (i + 1) 1 (by omega) (by rcases hq with ⟨-, h1, h2⟩ | ⟨h, -⟩; exact Or.inl ⟨rfl, h1, fun j hj => by by_cases e : j = i; (rw [e]; exact c7); exact h2 j (by omega)⟩; exact absurd h c6) (by omega)
    exact lp (B.1.1 + 1) 0 _ (Nat.zero_le _) (by rcases isIn01 ((tx pl) - 48) 8 with h | h; exact Or.inr ⟨h, Or.inl h⟩; exact Or.inl ⟨h, by rw [h]; decide, fun j hj => absurd hj (Nat.not_lt_zero _)⟩) (by omega)
  · replace c1 := (ix_eq (a := pl) (b := n) (rfl) (rfl) (by omega) (by omega)).mp c1
    refine wp_bipush (v := (-9)) dX10_readPlace_11 (by decide) ?_
    refine wp_goto 28 dX10_readPlace_13 (by decide) ?_
    refine wp_istore_n [1, 0] (by decide) rfl rfl rfl dX10_readPlace_28 rfl ?_
    refine wp_iload_n dX10_readPlace_29 rfl 1 rfl ?_
    refine wp_i2l dX10_readPlace_30 ?_
    refine wp_lconst (v := 0) dX10_readPlace_31 rfl ?_
    refine wp_topL (x' := (0 : Int32).toInt64) (by decide) ?_
    refine wp_ldc2 (v := 7) k_889 dX10_readPlace_32 ?_
    refine wp_topL (x' := (7 : Int32).toInt64) (by decide) ?_
    refine wp_callP (e := isIn (-9) 8) (mm_siteS (av := [.long ((-9).toInt64), .long ((0 : Int32).toInt64), .long ((7 : Int32).toInt64)]) hC lX10_78 rfl rfl (Nat.le_of_ble_eq_true rfl) dX10_readPlace_35) (c_X10_in8 l k _ _ _ _ (-9)) (by omega) (by decide) ?_
    refine wp_istore_n [1, 2, 0] (by decide) rfl rfl rfl dX10_readPlace_38 rfl ?_
    refine wp_iconst (v := 0) dX10_readPlace_39 (by decide) ?_
    refine wp_istore_n [1, 2, 3, 0] (by decide) rfl rfl rfl dX10_readPlace_40 rfl ?_
    have hvf : figP tx n pl 0 7 = if isIn (-9) 8 = 0 then -9 else (-9) := by rw [c1, fig_end (by decide), if_pos (by decide)]
    have lp : ∀ (nn : Nat) (i : Nat) (q : Int32), (i ≤ B.1.1) → ((q = 1 ∧ ¬ isIn (-9) 8 = 0 ∧ ∀ j, j < i → B.2 1 j ≠ (-9)) ∨ (q = 0 ∧ (isIn (-9) 8 = 0 ∨ ∃ j, j < i ∧ B.2 1 j = (-9)))) → B.1.1 - i < nn → WP hX10_readPlace X 144 41 [(0, .ref 123), (1, .int (-9)), (2, .int q), (3, .int (nI i))] [] F A R G := by
      intro nn
      induction nn with
      | zero => intro i q _ _ hm; exact absurd hm (Nat.not_lt_zero _)
      | succ nn ih_lp =>
        intro i q hi hq hm_lp
        refine wp_iload_n dX10_readPlace_41 rfl 3 rfl ?_
        refine wp_aload_n dX10_readPlace_42 rfl 0 rfl ?_
        refine wp_getI fX10_95 rfl (rfl) (by decide) dX10_readPlace_43 ?_
        refine wp_top (x' := nI B.1.1) (hMr.1) ?_
        refine wp_icmp_ge 77 dX10_readPlace_46 (by decide) (fun c8 => ?_) (fun c8 => ?_)
        · replace c8 := (ix_le (a := B.1.1) (b := i) (rfl) (rfl) (by omega) (by omega)).mp c8
          refine wp_aload_n dX10_readPlace_77 rfl 0 rfl ?_
          refine wp_dup dX10_readPlace_78 rfl ?_
          refine wp_getI fX10_90 rfl (rfl) (by decide) dX10_readPlace_79 ?_
          refine wp_top (x' := nI (pl)) (h3) ?_
          refine wp_iload_n dX10_readPlace_82 rfl 2 rfl ?_
          refine wp_if_eq 90 dX10_readPlace_83 (by decide) (fun c9 => ?_) (fun c9 => ?_)
          · refine wp_iconst (v := 0) dX10_readPlace_90 (by decide) ?_
            refine wp_iadd dX10_readPlace_91 ?_
            refine wp_putI fX10_90 fn_10_3 rfl (rfl) (by decide) dX10_readPlace_92 ?_
            refine wp_iload_n dX10_readPlace_95 rfl 2 rfl ?_
            refine wp_if_eq 103 dX10_readPlace_96 (by decide) (fun c10 => ?_) (fun c10 => ?_)
            · refine wp_bipush (v := (-9)) dX10_readPlace_103 (by decide) ?_
              exact wp_iret hC rfl rfl dX10_readPlace_105 (pI_ok (by have e : plcP tx n B pl = -9 := (by rcases hq with ⟨h, -⟩ | ⟨-, h⟩; (rw [h] at c9; exact absurd c9 (by decide)); exact plc_no1 hvf (h.imp id (fun ⟨j, hj, e⟩ => ⟨j, by omega, e⟩)) hb5); exact ⟨e.symm, by rw [if_pos e, Int32.add_zero], rfl, rfl, rfl⟩))
            · exact absurd c9 c10
          · refine wp_iconst (v := 1) dX10_readPlace_86 (by decide) ?_
            refine wp_goto 91 dX10_readPlace_87 (by decide) ?_
            refine wp_iadd dX10_readPlace_91 ?_
            refine wp_putI fX10_90 fn_10_3 rfl (rfl) (by decide) dX10_readPlace_92 ?_
            refine wp_iload_n dX10_readPlace_95 rfl 2 rfl ?_
            refine wp_if_eq 103 dX10_readPlace_96 (by decide) (fun c11 => ?_) (fun c11 => ?_)
            · exact absurd c11 c9
            · refine wp_iload_n dX10_readPlace_99 rfl 1 rfl ?_
              refine wp_goto 105 dX10_readPlace_100 (by decide) ?_
              exact wp_iret hC rfl rfl dX10_readPlace_105 (pI_ok (by rcases hq with ⟨-, h1, h2⟩ | ⟨h, -⟩; (obtain ⟨e, e2⟩ := plc_yes hvf h1 (fun j hj => h2 j (by omega)); exact ⟨e.symm, by rw [e, if_neg e2, nI_1], rfl, rfl, rfl⟩); exact absurd h c9))
        · replace c8 := mt (ix_le (a := B.1.1) (b := i) (rfl) (rfl) (by omega) (by omega)).mpr c8
          refine wp_iload_n dX10_readPlace_49 rfl 2 rfl ?_
          refine wp_if_eq 69 dX10_readPlace_50 (by decide) (fun c12 => ?_) (fun c12 => ?_)
          · refine wp_iconst (v := 0) dX10_readPlace_69 (by decide) ?_
            refine wp_istore_n [1, 2, 0, 4] (by decide) rfl rfl rfl dX10_readPlace_70 rfl ?_
            refine wp_iinc (v := nI (i + 1)) 3 rfl (by exact nI_1 i) [1, 2, 3, 0] (by decide) rfl rfl rfl dX10_readPlace_71 ?_
            refine wp_goto 41 dX10_readPlace_74 (by decide) ?_
            exact ih_lp (i + 1) 0 (by omega) (Or.inr ⟨rfl, by rcases hq with ⟨h, -⟩ | ⟨-, h⟩; (rw [h] at c12; exact absurd c12 (by decide)); exact h.imp id (fun ⟨j, hj, e⟩ => ⟨j, by omega, e⟩)⟩) (by omega)
          · refine wp_aload_n dX10_readPlace_53 rfl 0 rfl ?_
            refine wp_getO (q := 128) fX10_22 hR rfl (rfl) (by decide) (by decide) rfl dX10_readPlace_54 ?_
            refine wp_iconst (v := 3) dX10_readPlace_57 (by decide) ?_
            refine wp_iload_n dX10_readPlace_58 rfl 3 rfl ?_
            refine wp_imul dX10_readPlace_59 ?_
            refine wp_iald (3 * i) (ix_mul rfl rfl) (rfl) (by decide) ((show 3 * i < 15 from by omega)) dX10_readPlace_60 ?_
            refine wp_top (x' := B.2 1 i) (hMr.2.2.2.1 i (by omega) 0 (by decide)) ?_
            refine wp_iload_n dX10_readPlace_61 rfl 1 rfl ?_
            refine wp_icmp_eq 69 dX10_readPlace_62 (by decide) (fun c13 => ?_) (fun c13 => ?_)
            · refine wp_iconst (v := 0) dX10_readPlace_69 (by decide) ?_
              refine wp_istore_n [1, 2, 0, 4] (by decide) rfl rfl rfl dX10_readPlace_70 rfl ?_
              refine wp_iinc (v := nI (i + 1)) 3 rfl (by exact nI_1 i) [1, 2, 3, 0] (by decide) rfl rfl rfl dX10_readPlace_71 ?_
              refine wp_goto 41 dX10_readPlace_74 (by decide) ?_
              exact ih_lp (i + 1) 0 (by omega) (Or.inr ⟨rfl, Or.inr ⟨i, by omega, c13⟩⟩) (by omega)
            · refine wp_iconst (v := 1) dX10_readPlace_65 (by decide) ?_
              refine wp_goto 70 dX10_readPlace_66 (by decide) ?_
              refine wp_istore_n [1, 2, 0, 4] (by decide) rfl rfl rfl dX10_readPlace_70 rfl ?_
              refine wp_iinc (v := nI (i + 1)) 3 rfl (by exact nI_1 i) [1, 2, 3, 0] (by decide) rfl rfl rfl dX10_readPlace_71 ?_
              refine wp_goto 41 dX10_readPlace_74 (by decide) ?_
              exact ih_lp (i + 1) 1 (by omega) (by rcases hq with ⟨-, h1, h2⟩ | ⟨h, -⟩; exact Or.inl ⟨rfl, h1, fun j hj => by by_cases e : j = i; (rw [e]; exact c13); exact h2 j (by omega)⟩; exact absurd h c12) (by omega)
    exact lp (B.1.1 + 1) 0 _ (Nat.zero_le _) (by rcases isIn01 (-9) 8 with h | h; exact Or.inr ⟨h, Or.inl h⟩; exact Or.inl ⟨h, by rw [h]; decide, fun j hj => absurd hj (Nat.not_lt_zero _)⟩) (by omega)

set_option maxRecDepth 100000 in
set_option maxHeartbeats 600000 in
theorem c_X10_readOneHusk (l : Launch) (k : Nat) (F A : mmF) (R : mmR) (G : mmG) (n : Nat) (tx : Nat → Int32) (p : Nat) (hR : mm_RL R) (hn60 : n ≤ 60) (hn : F 123 2 = nI n) (ht : ∀ i, i < n → A 124 i = tx i) (h3 : F 123 3 = nI (p + 1)) (B : BV) (hMr : isM F A 12 128 B) (hw1 : B.1.1 ≤ 5 ∧ B.1.2.1 ≤ 4 ∧ B.1.2.2 ≤ 4) (hp : p < n) (hb : B.1.1 < 5) : Meets l hX10_readOneHusk (k + 2) 144 144 [.ref 123] F A R G (pI (fun v F1 A1 R1 G1 => frR F A F1 A1 ∧ (if (readHP tx n B p).2 = -9 then v = 1 ∧ F1 123 3 = nI (p + 4) ∧ isM F1 A1 12 128 (readHP tx n B p).1 else v = 0 ∧ F1 123 3 = (readHP tx n B p).2) ∧ R = R1 ∧ G = G1)) := by
  refine mm_start rfl (Nat.le_of_ble_eq_true rfl) (fun X hC => ?_)
  show WP hX10_readOneHusk X 144 0 [(0, .ref 123)] [] F A R G
  have hfr := frR.refl F A
  refine wp_aload_n dX10_readOneHusk_0 rfl 0 rfl ?_
  refine wp_callI (mm_siteV (av := []) hC lX10_98 (rfl) (by decide) ⟨_, rfl, rfl⟩ rfl rfl (Nat.le_of_ble_eq_true rfl) dX10_readOneHusk_1) (c_X10_readPlace l (k + 0) _ _ _ _ n tx (p + 1) hR hn60 hn ht h3 B hMr (by omega) (by omega)) (by omega) (by decide) ?_
  rintro _ F1 A _ _ ⟨rfl, hF1, rfl, rfl, rfl⟩
  by_cases hz1 : plcP tx n B (p + 1) = -9
  · rw [if_pos hz1] at hF1
    have hfr := hfr.trans (show frR F A F1 A from by rw [hF1]; exact frR.F (Or.inl rfl))
    have hMr : isM F1 A 12 128 B := isM_c hMr ⟨by rw [hF1]; simp [u2, va_up], by rw [hF1]; simp [u2, va_up], by rw [hF1]; simp [u2, va_up]⟩ ⟨rfl, rfl, rfl⟩
    have hn : F1 123 2 = nI n := by rw [hF1]; simp [u2, va_up]; exact hn
    have h3 : F1 123 3 = nI (p + 1) := by rw [hF1, u2_row]; exact va_up_self _ _ _
    refine wp_top (x' := -9) hz1 ?_
    refine wp_istore_n [1, 0] (by decide) rfl rfl rfl dX10_readOneHusk_4 rfl ?_
    refine wp_iload_n dX10_readOneHusk_5 rfl 1 rfl ?_
    refine wp_bipush (v := (-9)) dX10_readOneHusk_6 (by decide) ?_
    refine wp_icmp_ne 16 dX10_readOneHusk_8 (by decide) (fun c1 => ?_) (fun c1 => ?_)
    · exact absurd rfl c1
    · refine wp_bipush (v := (-9)) dX10_readOneHusk_11 (by decide) ?_
      refine wp_goto 23 dX10_readOneHusk_13 (by decide) ?_
      refine wp_istore_n [1, 2, 0] (by decide) rfl rfl rfl dX10_readOneHusk_23 rfl ?_
      refine wp_iload_n dX10_readOneHusk_24 rfl 2 rfl ?_
      refine wp_bipush (v := (-9)) dX10_readOneHusk_25 (by decide) ?_
      refine wp_icmp_ne 35 dX10_readOneHusk_27 (by decide) (fun c2 => ?_) (fun c2 => ?_)
      · exact absurd rfl c2
      · refine wp_bipush (v := (-9)) dX10_readOneHusk_30 (by decide) ?_
        refine wp_goto 41 dX10_readOneHusk_32 (by decide) ?_
        refine wp_istore_n [1, 2, 3, 0] (by decide) rfl rfl rfl dX10_readOneHusk_41 rfl ?_
        refine wp_iload_n dX10_readOneHusk_42 rfl 3 rfl ?_
        refine wp_bipush (v := (-9)) dX10_readOneHusk_43 (by decide) ?_
        refine wp_icmp_ne 50 dX10_readOneHusk_45 (by decide) (fun c3 => ?_) (fun c3 => ?_)
        · exact absurd rfl c3
        · refine wp_iconst (v := 0) dX10_readOneHusk_48 (by decide) ?_
          exact wp_iret hC rfl rfl dX10_readOneHusk_49 (pI_ok (by rw [readHP_p hb, if_pos hz1]; exact ⟨hfr, by rw [if_neg (show ¬ nI (p + 1) = -9 from nI_ne9 (by omega))]; exact ⟨rfl, h3⟩, rfl, rfl⟩))
  · rw [if_neg hz1] at hF1
    have hl1 := fig_lt (by decide) (plc_fig hz1).2
    have hfr := hfr.trans (show frR F A F1 A from by rw [hF1]; exact frR.F (Or.inl rfl))
    have hMr : isM F1 A 12 128 B := isM_c hMr ⟨by rw [hF1]; simp [u2, va_up], by rw [hF1]; simp [u2, va_up], by rw [hF1]; simp [u2, va_up]⟩ ⟨rfl, rfl, rfl⟩
    have hn : F1 123 2 = nI n := by rw [hF1]; simp [u2, va_up]; exact hn
    have h3 : F1 123 3 = nI (p + 2) := by rw [hF1, u2_row]; exact va_up_self _ _ _
    refine wp_istore_n [1, 0] (by decide) rfl rfl rfl dX10_readOneHusk_4 rfl ?_
    refine wp_iload_n dX10_readOneHusk_5 rfl 1 rfl ?_
    refine wp_bipush (v := (-9)) dX10_readOneHusk_6 (by decide) ?_
    refine wp_icmp_ne 16 dX10_readOneHusk_8 (by decide) (fun c4 => ?_) (fun c4 => ?_)
    · refine wp_aload_n dX10_readOneHusk_16 rfl 0 rfl ?_
      refine wp_iconst (v := 1) dX10_readOneHusk_17 (by decide) ?_
      refine wp_bipush (v := 9) dX10_readOneHusk_18 (by decide) ?_
      refine wp_callI (mm_siteV (av := [.int 1, .int 9]) hC lX10_102 (rfl) (by decide) ⟨_, rfl, rfl⟩ rfl rfl (Nat.le_of_ble_eq_true rfl) dX10_readOneHusk_20) (c_X10_figure l (k + 0) _ _ _ _ n tx (p + 2) hR hn60 hn ht h3 1 9 (by omega) (by decide)) (by omega) (by decide) ?_
      rintro _ F2 A _ _ ⟨rfl, hF2, rfl, rfl, rfl⟩
      by_cases hz2 : figP tx n (p + 2) 1 9 = -9
      · rw [if_pos hz2] at hF2
        rw [hF2]
        refine wp_top (x' := -9) hz2 ?_
        refine wp_istore_n [1, 2, 0] (by decide) rfl rfl rfl dX10_readOneHusk_23 rfl ?_
        refine wp_iload_n dX10_readOneHusk_24 rfl 2 rfl ?_
        refine wp_bipush (v := (-9)) dX10_readOneHusk_25 (by decide) ?_
        refine wp_icmp_ne 35 dX10_readOneHusk_27 (by decide) (fun c5 => ?_) (fun c5 => ?_)
        · exact absurd rfl c5
        · refine wp_bipush (v := (-9)) dX10_readOneHusk_30 (by decide) ?_
          refine wp_goto 41 dX10_readOneHusk_32 (by decide) ?_
          refine wp_istore_n [1, 2, 3, 0] (by decide) rfl rfl rfl dX10_readOneHusk_41 rfl ?_
          refine wp_iload_n dX10_readOneHusk_42 rfl 3 rfl ?_
          refine wp_bipush (v := (-9)) dX10_readOneHusk_43 (by decide) ?_
          refine wp_icmp_ne 50 dX10_readOneHusk_45 (by decide) (fun c6 => ?_) (fun c6 => ?_)
          · exact absurd rfl c6
          · refine wp_iconst (v := 0) dX10_readOneHusk_48 (by decide) ?_
            exact wp_iret hC rfl rfl dX10_readOneHusk_49 (pI_ok (by rw [readHP_p hb, if_neg hz1, if_pos hz2]; exact ⟨hfr, by rw [if_neg (show ¬ nI (p + 2) = -9 from nI_ne9 (by omega))]; exact ⟨rfl, h3⟩, rfl, rfl⟩))
      · rw [if_neg hz2] at hF2
        have hl2 := fig_lt (by decide) hz2
        have hfr := hfr.trans (show frR F1 A F2 A from by rw [hF2]; exact frR.F (Or.inl rfl))
        have hMr : isM F2 A 12 128 B := isM_c hMr ⟨by rw [hF2]; simp [u2, va_up], by rw [hF2]; simp [u2, va_up], by rw [hF2]; simp [u2, va_up]⟩ ⟨rfl, rfl, rfl⟩
        have hn : F2 123 2 = nI n := by rw [hF2]; simp [u2, va_up]; exact hn
        have h3 : F2 123 3 = nI (p + 3) := by rw [hF2, u2_row]; exact va_up_self _ _ _
        refine wp_istore_n [1, 2, 0] (by decide) rfl rfl rfl dX10_readOneHusk_23 rfl ?_
        refine wp_iload_n dX10_readOneHusk_24 rfl 2 rfl ?_
        refine wp_bipush (v := (-9)) dX10_readOneHusk_25 (by decide) ?_
        refine wp_icmp_ne 35 dX10_readOneHusk_27 (by decide) (fun c7 => ?_) (fun c7 => ?_)
        · refine wp_aload_n dX10_readOneHusk_35 rfl 0 rfl ?_
          refine wp_iconst (v := 0) dX10_readOneHusk_36 (by decide) ?_
          refine wp_iconst (v := 3) dX10_readOneHusk_37 (by decide) ?_
          refine wp_callI (mm_siteV (av := [.int 0, .int 3]) hC lX10_102 (rfl) (by decide) ⟨_, rfl, rfl⟩ rfl rfl (Nat.le_of_ble_eq_true rfl) dX10_readOneHusk_38) (c_X10_figure l (k + 0) _ _ _ _ n tx (p + 3) hR hn60 hn ht h3 0 3 (by omega) (by decide)) (by omega) (by decide) ?_
          rintro _ F3 A _ _ ⟨rfl, hF3, rfl, rfl, rfl⟩
          by_cases hz3 : figP tx n (p + 3) 0 3 = -9
          · rw [if_pos hz3] at hF3
            rw [hF3]
            refine wp_top (x' := -9) hz3 ?_
            refine wp_istore_n [1, 2, 3, 0] (by decide) rfl rfl rfl dX10_readOneHusk_41 rfl ?_
            refine wp_iload_n dX10_readOneHusk_42 rfl 3 rfl ?_
            refine wp_bipush (v := (-9)) dX10_readOneHusk_43 (by decide) ?_
            refine wp_icmp_ne 50 dX10_readOneHusk_45 (by decide) (fun c8 => ?_) (fun c8 => ?_)
            · exact absurd rfl c8
            · refine wp_iconst (v := 0) dX10_readOneHusk_48 (by decide) ?_
              exact wp_iret hC rfl rfl dX10_readOneHusk_49 (pI_ok (by rw [readHP_p hb, if_neg hz1, if_neg hz2, if_pos hz3]; exact ⟨hfr, by rw [if_neg (show ¬ nI (p + 3) = -9 from nI_ne9 (by omega))]; exact ⟨rfl, h3⟩, rfl, rfl⟩))
          · rw [if_neg hz3] at hF3
            have hl3 := fig_lt (by decide) hz3
            have hfr := hfr.trans (show frR F2 A F3 A from by rw [hF3]; exact frR.F (Or.inl rfl))
            have hMr : isM F3 A 12 128 B := isM_c hMr ⟨by rw [hF3]; simp [u2, va_up], by rw [hF3]; simp [u2, va_up], by rw [hF3]; simp [u2, va_up]⟩ ⟨rfl, rfl, rfl⟩
            have hn : F3 123 2 = nI n := by rw [hF3]; simp [u2, va_up]; exact hn
            have h3 : F3 123 3 = nI (p + 4) := by rw [hF3, u2_row]; exact va_up_self _ _ _
            refine wp_istore_n [1, 2, 3, 0] (by decide) rfl rfl rfl dX10_readOneHusk_41 rfl ?_
            refine wp_iload_n dX10_readOneHusk_42 rfl 3 rfl ?_
            refine wp_bipush (v := (-9)) dX10_readOneHusk_43 (by decide) ?_
            refine wp_icmp_ne 50 dX10_readOneHusk_45 (by decide) (fun c9 => ?_) (fun c9 => ?_)
            · refine wp_aload_n dX10_readOneHusk_50 rfl 0 rfl ?_
              refine wp_getO (q := 128) fX10_22 hR rfl (rfl) (by decide) (by decide) rfl dX10_readOneHusk_51 ?_
              refine wp_iconst (v := 3) dX10_readOneHusk_54 (by decide) ?_
              refine wp_aload_n dX10_readOneHusk_55 rfl 0 rfl ?_
              refine wp_getI fX10_95 rfl (rfl) (by decide) dX10_readOneHusk_56 ?_
              refine wp_top (x' := nI B.1.1) (hMr.1) ?_
              refine wp_imul dX10_readOneHusk_59 ?_
              refine wp_iload_n dX10_readOneHusk_60 rfl 1 rfl ?_
              refine wp_iast (3 * B.1.1) (ix_mul rfl rfl) (rfl) (by decide) ((show 3 * B.1.1 < 15 from by omega)) dX10_readOneHusk_61 ?_
              refine wp_aload_n dX10_readOneHusk_62 rfl 0 rfl ?_
              refine wp_getO (q := 128) fX10_22 hR rfl (rfl) (by decide) (by decide) rfl dX10_readOneHusk_63 ?_
              refine wp_iconst (v := 3) dX10_readOneHusk_66 (by decide) ?_
              refine wp_aload_n dX10_readOneHusk_67 rfl 0 rfl ?_
              refine wp_getI fX10_95 rfl (rfl) (by decide) dX10_readOneHusk_68 ?_
              refine wp_top (x' := nI B.1.1) (hMr.1) ?_
              refine wp_imul dX10_readOneHusk_71 ?_
              refine wp_iconst (v := 1) dX10_readOneHusk_72 (by decide) ?_
              refine wp_iadd dX10_readOneHusk_73 ?_
              refine wp_iload_n dX10_readOneHusk_74 rfl 2 rfl ?_
              refine wp_iast ((3 * B.1.1) + 1) (ix_add (ix_mul rfl rfl) rfl) (rfl) (by decide) ((show (3 * B.1.1) + 1 < 15 from by omega)) dX10_readOneHusk_75 ?_
              refine wp_aload_n dX10_readOneHusk_76 rfl 0 rfl ?_
              refine wp_getO (q := 128) fX10_22 hR rfl (rfl) (by decide) (by decide) rfl dX10_readOneHusk_77 ?_
              refine wp_iconst (v := 3) dX10_readOneHusk_80 (by decide) ?_
              refine wp_aload_n dX10_readOneHusk_81 rfl 0 rfl ?_
              refine wp_getI fX10_95 rfl (rfl) (by decide) dX10_readOneHusk_82 ?_
              refine wp_top (x' := nI B.1.1) (hMr.1) ?_
              refine wp_imul dX10_readOneHusk_85 ?_
              refine wp_iconst (v := 2) dX10_readOneHusk_86 (by decide) ?_
              refine wp_iadd dX10_readOneHusk_87 ?_
              refine wp_iload_n dX10_readOneHusk_88 rfl 3 rfl ?_
              refine wp_iast ((3 * B.1.1) + 2) (ix_add (ix_mul rfl rfl) rfl) (rfl) (by decide) ((show (3 * B.1.1) + 2 < 15 from by omega)) dX10_readOneHusk_89 ?_
              refine wp_aload_n dX10_readOneHusk_90 rfl 0 rfl ?_
              refine wp_dup dX10_readOneHusk_91 rfl ?_
              refine wp_getI fX10_95 rfl (rfl) (by decide) dX10_readOneHusk_92 ?_
              refine wp_top (x' := nI B.1.1) (hMr.1) ?_
              refine wp_iconst (v := 1) dX10_readOneHusk_95 (by decide) ?_
              refine wp_iadd dX10_readOneHusk_96 ?_
              refine wp_top (x' := nI (B.1.1 + 1)) (nI_1 B.1.1) ?_
              refine wp_putI fX10_95 fn_10_12 rfl (rfl) (by decide) dX10_readOneHusk_97 ?_
              refine wp_iconst (v := 1) dX10_readOneHusk_100 (by decide) ?_
              exact wp_iret hC rfl rfl dX10_readOneHusk_101 (pI_ok (by rw [readHP_p hb, if_neg hz1, if_neg hz2, if_neg hz3]; exact ⟨hfr.trans ((frR.F (Or.inr (Or.inl rfl))).trans ((frR.A (Or.inl rfl)).trans ((frR.A (Or.inl rfl)).trans (frR.A (Or.inl rfl))))), by rw [if_pos rfl]; exact ⟨rfl, by simp [u2, va_up]; exact h3, isM_addH _ _ _ hMr⟩, rfl, rfl⟩))
            · exact absurd c9 hz3
        · exact absurd c7 hz2
    · exact absurd c4 hz1

theorem readTP_p {tx : Nat → Int32} {n p : Nat} {B : BV} (hb : B.1.2.1 < 4) : readTP tx n B p = if figP tx n (p + 1) 0 3 = -9 then (B, nI (p + 1)) else if figP tx n (p + 2) 1 9 = -9 then (B, nI (p + 2)) else if figP tx n (p + 3) 0 3 = -9 then (B, nI (p + 3)) else (addT B (figP tx n (p + 1) 0 3) (figP tx n (p + 2) 1 9) (figP tx n (p + 3) 0 3), -9) := by
  unfold readTP; rw [if_pos hb]
set_option maxRecDepth 100000 in
set_option maxHeartbeats 600000 in
theorem c_X10_readOneThrower (l : Launch) (k : Nat) (F A : mmF) (R : mmR) (G : mmG) (n : Nat) (tx : Nat → Int32) (p : Nat) (hR : mm_RL R) (hn60 : n ≤ 60) (hn : F 123 2 = nI n) (ht : ∀ i, i < n → A 124 i = tx i) (h3 : F 123 3 = nI (p + 1)) (B : BV) (hMr : isM F A 12 128 B) (hw1 : B.1.1 ≤ 5 ∧ B.1.2.1 ≤ 4 ∧ B.1.2.2 ≤ 4) (hp : p < n) (hb : B.1.2.1 < 4) : Meets l hX10_readOneThrower (k + 2) 144 144 [.ref 123] F A R G (pI (fun v F1 A1 R1 G1 => frR F A F1 A1 ∧ (if (readTP tx n B p).2 = -9 then v = 1 ∧ F1 123 3 = nI (p + 4) ∧ isM F1 A1 12 128 (readTP tx n B p).1 else v = 0 ∧ F1 123 3 = (readTP tx n B p).2) ∧ R = R1 ∧ G = G1)) := by
  refine mm_start rfl (Nat.le_of_ble_eq_true rfl) (fun X hC => ?_)
  show WP hX10_readOneThrower X 144 0 [(0, .ref 123)] [] F A R G
  have hfr := frR.refl F A
  refine wp_aload_n dX10_readOneThrower_0 rfl 0 rfl ?_
  refine wp_iconst (v := 0) dX10_readOneThrower_1 (by decide) ?_
  refine wp_iconst (v := 3) dX10_readOneThrower_2 (by decide) ?_
  refine wp_callI (mm_siteV (av := [.int 0, .int 3]) hC lX10_102 (rfl) (by decide) ⟨_, rfl, rfl⟩ rfl rfl (Nat.le_of_ble_eq_true rfl) dX10_readOneThrower_3) (c_X10_figure l (k + 0) _ _ _ _ n tx (p + 1) hR hn60 hn ht h3 0 3 (by omega) (by decide)) (by omega) (by decide) ?_
  rintro _ F1 A _ _ ⟨rfl, hF1, rfl, rfl, rfl⟩
  by_cases hz1 : figP tx n (p + 1) 0 3 = -9
  · rw [if_pos hz1] at hF1
    rw [hF1]
    refine wp_top (x' := -9) hz1 ?_
    refine wp_istore_n [1, 0] (by decide) rfl rfl rfl dX10_readOneThrower_6 rfl ?_
    refine wp_iload_n dX10_readOneThrower_7 rfl 1 rfl ?_
    refine wp_bipush (v := (-9)) dX10_readOneThrower_8 (by decide) ?_
    refine wp_icmp_ne 18 dX10_readOneThrower_10 (by decide) (fun c1 => ?_) (fun c1 => ?_)
    · exact absurd rfl c1
    · refine wp_bipush (v := (-9)) dX10_readOneThrower_13 (by decide) ?_
      refine wp_goto 25 dX10_readOneThrower_15 (by decide) ?_
      refine wp_istore_n [1, 2, 0] (by decide) rfl rfl rfl dX10_readOneThrower_25 rfl ?_
      refine wp_iload_n dX10_readOneThrower_26 rfl 2 rfl ?_
      refine wp_bipush (v := (-9)) dX10_readOneThrower_27 (by decide) ?_
      refine wp_icmp_ne 37 dX10_readOneThrower_29 (by decide) (fun c2 => ?_) (fun c2 => ?_)
      · exact absurd rfl c2
      · refine wp_bipush (v := (-9)) dX10_readOneThrower_32 (by decide) ?_
        refine wp_goto 43 dX10_readOneThrower_34 (by decide) ?_
        refine wp_istore_n [1, 2, 3, 0] (by decide) rfl rfl rfl dX10_readOneThrower_43 rfl ?_
        refine wp_iload_n dX10_readOneThrower_44 rfl 3 rfl ?_
        refine wp_bipush (v := (-9)) dX10_readOneThrower_45 (by decide) ?_
        refine wp_icmp_ne 52 dX10_readOneThrower_47 (by decide) (fun c3 => ?_) (fun c3 => ?_)
        · exact absurd rfl c3
        · refine wp_iconst (v := 0) dX10_readOneThrower_50 (by decide) ?_
          exact wp_iret hC rfl rfl dX10_readOneThrower_51 (pI_ok (by rw [readTP_p hb, if_pos hz1]; exact ⟨hfr, by rw [if_neg (show ¬ nI (p + 1) = -9 from nI_ne9 (by omega))]; exact ⟨rfl, h3⟩, rfl, rfl⟩))
  · rw [if_neg hz1] at hF1
    have hl1 := fig_lt (by decide) hz1
    have hfr := hfr.trans (show frR F A F1 A from by rw [hF1]; exact frR.F (Or.inl rfl))
    have hMr : isM F1 A 12 128 B := isM_c hMr ⟨by rw [hF1]; simp [u2, va_up], by rw [hF1]; simp [u2, va_up], by rw [hF1]; simp [u2, va_up]⟩ ⟨rfl, rfl, rfl⟩
    have hn : F1 123 2 = nI n := by rw [hF1]; simp [u2, va_up]; exact hn
    have h3 : F1 123 3 = nI (p + 2) := by rw [hF1, u2_row]; exact va_up_self _ _ _
    refine wp_istore_n [1, 0] (by decide) rfl rfl rfl dX10_readOneThrower_6 rfl ?_
    refine wp_iload_n dX10_readOneThrower_7 rfl 1 rfl ?_
    refine wp_bipush (v := (-9)) dX10_readOneThrower_8 (by decide) ?_
    refine wp_icmp_ne 18 dX10_readOneThrower_10 (by decide) (fun c4 => ?_) (fun c4 => ?_)
    · refine wp_aload_n dX10_readOneThrower_18 rfl 0 rfl ?_
      refine wp_iconst (v := 1) dX10_readOneThrower_19 (by decide) ?_
      refine wp_bipush (v := 9) dX10_readOneThrower_20 (by decide) ?_
      refine wp_callI (mm_siteV (av := [.int 1, .int 9]) hC lX10_102 (rfl) (by decide) ⟨_, rfl, rfl⟩ rfl rfl (Nat.le_of_ble_eq_true rfl) dX10_readOneThrower_22) (c_X10_figure l (k + 0) _ _ _ _ n tx (p + 2) hR hn60 hn ht h3 1 9 (by omega) (by decide)) (by omega) (by decide) ?_
      rintro _ F2 A _ _ ⟨rfl, hF2, rfl, rfl, rfl⟩
      by_cases hz2 : figP tx n (p + 2) 1 9 = -9
      · rw [if_pos hz2] at hF2
        rw [hF2]
        refine wp_top (x' := -9) hz2 ?_
        refine wp_istore_n [1, 2, 0] (by decide) rfl rfl rfl dX10_readOneThrower_25 rfl ?_
        refine wp_iload_n dX10_readOneThrower_26 rfl 2 rfl ?_
        refine wp_bipush (v := (-9)) dX10_readOneThrower_27 (by decide) ?_
        refine wp_icmp_ne 37 dX10_readOneThrower_29 (by decide) (fun c5 => ?_) (fun c5 => ?_)
        · exact absurd rfl c5
        · refine wp_bipush (v := (-9)) dX10_readOneThrower_32 (by decide) ?_
          refine wp_goto 43 dX10_readOneThrower_34 (by decide) ?_
          refine wp_istore_n [1, 2, 3, 0] (by decide) rfl rfl rfl dX10_readOneThrower_43 rfl ?_
          refine wp_iload_n dX10_readOneThrower_44 rfl 3 rfl ?_
          refine wp_bipush (v := (-9)) dX10_readOneThrower_45 (by decide) ?_
          refine wp_icmp_ne 52 dX10_readOneThrower_47 (by decide) (fun c6 => ?_) (fun c6 => ?_)
          · exact absurd rfl c6
          · refine wp_iconst (v := 0) dX10_readOneThrower_50 (by decide) ?_
            exact wp_iret hC rfl rfl dX10_readOneThrower_51 (pI_ok (by rw [readTP_p hb, if_neg hz1, if_pos hz2]; exact ⟨hfr, by rw [if_neg (show ¬ nI (p + 2) = -9 from nI_ne9 (by omega))]; exact ⟨rfl, h3⟩, rfl, rfl⟩))
      · rw [if_neg hz2] at hF2
        have hl2 := fig_lt (by decide) hz2
        have hfr := hfr.trans (show frR F1 A F2 A from by rw [hF2]; exact frR.F (Or.inl rfl))
        have hMr : isM F2 A 12 128 B := isM_c hMr ⟨by rw [hF2]; simp [u2, va_up], by rw [hF2]; simp [u2, va_up], by rw [hF2]; simp [u2, va_up]⟩ ⟨rfl, rfl, rfl⟩
        have hn : F2 123 2 = nI n := by rw [hF2]; simp [u2, va_up]; exact hn
        have h3 : F2 123 3 = nI (p + 3) := by rw [hF2, u2_row]; exact va_up_self _ _ _
        refine wp_istore_n [1, 2, 0] (by decide) rfl rfl rfl dX10_readOneThrower_25 rfl ?_
        refine wp_iload_n dX10_readOneThrower_26 rfl 2 rfl ?_
        refine wp_bipush (v := (-9)) dX10_readOneThrower_27 (by decide) ?_
        refine wp_icmp_ne 37 dX10_readOneThrower_29 (by decide) (fun c7 => ?_) (fun c7 => ?_)
        · refine wp_aload_n dX10_readOneThrower_37 rfl 0 rfl ?_
          refine wp_iconst (v := 0) dX10_readOneThrower_38 (by decide) ?_
          refine wp_iconst (v := 3) dX10_readOneThrower_39 (by decide) ?_
          refine wp_callI (mm_siteV (av := [.int 0, .int 3]) hC lX10_102 (rfl) (by decide) ⟨_, rfl, rfl⟩ rfl rfl (Nat.le_of_ble_eq_true rfl) dX10_readOneThrower_40) (c_X10_figure l (k + 0) _ _ _ _ n tx (p + 3) hR hn60 hn ht h3 0 3 (by omega) (by decide)) (by omega) (by decide) ?_
          rintro _ F3 A _ _ ⟨rfl, hF3, rfl, rfl, rfl⟩
          by_cases hz3 : figP tx n (p + 3) 0 3 = -9
          · rw [if_pos hz3] at hF3
            rw [hF3]
            refine wp_top (x' := -9) hz3 ?_
            refine wp_istore_n [1, 2, 3, 0] (by decide) rfl rfl rfl dX10_readOneThrower_43 rfl ?_
            refine wp_iload_n dX10_readOneThrower_44 rfl 3 rfl ?_
            refine wp_bipush (v := (-9)) dX10_readOneThrower_45 (by decide) ?_
            refine wp_icmp_ne 52 dX10_readOneThrower_47 (by decide) (fun c8 => ?_) (fun c8 => ?_)
            · exact absurd rfl c8
            · refine wp_iconst (v := 0) dX10_readOneThrower_50 (by decide) ?_
              exact wp_iret hC rfl rfl dX10_readOneThrower_51 (pI_ok (by rw [readTP_p hb, if_neg hz1, if_neg hz2, if_pos hz3]; exact ⟨hfr, by rw [if_neg (show ¬ nI (p + 3) = -9 from nI_ne9 (by omega))]; exact ⟨rfl, h3⟩, rfl, rfl⟩))
          · rw [if_neg hz3] at hF3
            have hl3 := fig_lt (by decide) hz3
            have hfr := hfr.trans (show frR F2 A F3 A from by rw [hF3]; exact frR.F (Or.inl rfl))
            have hMr : isM F3 A 12 128 B := isM_c hMr ⟨by rw [hF3]; simp [u2, va_up], by rw [hF3]; simp [u2, va_up], by rw [hF3]; simp [u2, va_up]⟩ ⟨rfl, rfl, rfl⟩
            have hn : F3 123 2 = nI n := by rw [hF3]; simp [u2, va_up]; exact hn
            have h3 : F3 123 3 = nI (p + 4) := by rw [hF3, u2_row]; exact va_up_self _ _ _
            refine wp_istore_n [1, 2, 3, 0] (by decide) rfl rfl rfl dX10_readOneThrower_43 rfl ?_
            refine wp_iload_n dX10_readOneThrower_44 rfl 3 rfl ?_
            refine wp_bipush (v := (-9)) dX10_readOneThrower_45 (by decide) ?_
            refine wp_icmp_ne 52 dX10_readOneThrower_47 (by decide) (fun c9 => ?_) (fun c9 => ?_)
            · refine wp_aload_n dX10_readOneThrower_52 rfl 0 rfl ?_
              refine wp_getO (q := 129) fX10_25 hR rfl (rfl) (by decide) (by decide) rfl dX10_readOneThrower_53 ?_
              refine wp_iconst (v := 3) dX10_readOneThrower_56 (by decide) ?_
              refine wp_aload_n dX10_readOneThrower_57 rfl 0 rfl ?_
              refine wp_getI fX10_106 rfl (rfl) (by decide) dX10_readOneThrower_58 ?_
              refine wp_top (x' := nI B.1.2.1) (hMr.2.1) ?_
              refine wp_imul dX10_readOneThrower_61 ?_
              refine wp_iload_n dX10_readOneThrower_62 rfl 1 rfl ?_
              refine wp_iast (3 * B.1.2.1) (ix_mul rfl rfl) (rfl) (by decide) ((show 3 * B.1.2.1 < 12 from by omega)) dX10_readOneThrower_63 ?_
              refine wp_aload_n dX10_readOneThrower_64 rfl 0 rfl ?_
              refine wp_getO (q := 129) fX10_25 hR rfl (rfl) (by decide) (by decide) rfl dX10_readOneThrower_65 ?_
              refine wp_iconst (v := 3) dX10_readOneThrower_68 (by decide) ?_
              refine wp_aload_n dX10_readOneThrower_69 rfl 0 rfl ?_
              refine wp_getI fX10_106 rfl (rfl) (by decide) dX10_readOneThrower_70 ?_
              refine wp_top (x' := nI B.1.2.1) (hMr.2.1) ?_
              refine wp_imul dX10_readOneThrower_73 ?_
              refine wp_iconst (v := 1) dX10_readOneThrower_74 (by decide) ?_
              refine wp_iadd dX10_readOneThrower_75 ?_
              refine wp_iload_n dX10_readOneThrower_76 rfl 2 rfl ?_
              refine wp_iast ((3 * B.1.2.1) + 1) (ix_add (ix_mul rfl rfl) rfl) (rfl) (by decide) ((show (3 * B.1.2.1) + 1 < 12 from by omega)) dX10_readOneThrower_77 ?_
              refine wp_aload_n dX10_readOneThrower_78 rfl 0 rfl ?_
              refine wp_getO (q := 129) fX10_25 hR rfl (rfl) (by decide) (by decide) rfl dX10_readOneThrower_79 ?_
              refine wp_iconst (v := 3) dX10_readOneThrower_82 (by decide) ?_
              refine wp_aload_n dX10_readOneThrower_83 rfl 0 rfl ?_
              refine wp_getI fX10_106 rfl (rfl) (by decide) dX10_readOneThrower_84 ?_
              refine wp_top (x' := nI B.1.2.1) (hMr.2.1) ?_
              refine wp_imul dX10_readOneThrower_87 ?_
              refine wp_iconst (v := 2) dX10_readOneThrower_88 (by decide) ?_
              refine wp_iadd dX10_readOneThrower_89 ?_
              refine wp_iload_n dX10_readOneThrower_90 rfl 3 rfl ?_
              refine wp_iast ((3 * B.1.2.1) + 2) (ix_add (ix_mul rfl rfl) rfl) (rfl) (by decide) ((show (3 * B.1.2.1) + 2 < 12 from by omega)) dX10_readOneThrower_91 ?_
              refine wp_aload_n dX10_readOneThrower_92 rfl 0 rfl ?_
              refine wp_dup dX10_readOneThrower_93 rfl ?_
              refine wp_getI fX10_106 rfl (rfl) (by decide) dX10_readOneThrower_94 ?_
              refine wp_top (x' := nI B.1.2.1) (hMr.2.1) ?_
              refine wp_iconst (v := 1) dX10_readOneThrower_97 (by decide) ?_
              refine wp_iadd dX10_readOneThrower_98 ?_
              refine wp_top (x' := nI (B.1.2.1 + 1)) (nI_1 B.1.2.1) ?_
              refine wp_putI fX10_106 fn_10_14 rfl (rfl) (by decide) dX10_readOneThrower_99 ?_
              refine wp_iconst (v := 1) dX10_readOneThrower_102 (by decide) ?_
              exact wp_iret hC rfl rfl dX10_readOneThrower_103 (pI_ok (by rw [readTP_p hb, if_neg hz1, if_neg hz2, if_neg hz3]; exact ⟨hfr.trans ((frR.F (Or.inr (Or.inr (Or.inl rfl)))).trans ((frR.A (Or.inr (Or.inl rfl))).trans ((frR.A (Or.inr (Or.inl rfl))).trans (frR.A (Or.inr (Or.inl rfl)))))), by rw [if_pos rfl]; exact ⟨rfl, by simp [u2, va_up]; exact h3, isM_addT _ _ _ hMr⟩, rfl, rfl⟩))
            · exact absurd c9 hz3
        · exact absurd c7 hz2
    · exact absurd c4 hz1

theorem readLP_p {tx : Nat → Int32} {n p : Nat} {B : BV} (hb : B.1.2.2 < 4) (hb2 : 2 ≤ B.1.1) : readLP tx n B p = if figP tx n (p + 1) 0 (nI (B.1.1 - 1)) = -9 then (B, nI (p + 1)) else if figP tx n (p + 2) 0 (nI (B.1.1 - 1)) = -9 then (B, nI (p + 2)) else if figP tx n (p + 2) 0 (nI (B.1.1 - 1)) = figP tx n (p + 1) 0 (nI (B.1.1 - 1)) then (B, nI (p + 2)) else if figP tx n (p + 3) 0 1 = -9 then (B, nI (p + 3)) else (addL B (figP tx n (p + 1) 0 (nI (B.1.1 - 1))) (figP tx n (p + 2) 0 (nI (B.1.1 - 1))) (figP tx n (p + 3) 0 1), -9) := by
  unfold readLP; rw [if_neg (by omega), if_pos hb2]
set_option maxRecDepth 100000 in
set_option maxHeartbeats 600000 in
theorem c_X10_readOneLaw (l : Launch) (k : Nat) (F A : mmF) (R : mmR) (G : mmG) (n : Nat) (tx : Nat → Int32) (p : Nat) (hR : mm_RL R) (hn60 : n ≤ 60) (hn : F 123 2 = nI n) (ht : ∀ i, i < n → A 124 i = tx i) (h3 : F 123 3 = nI (p + 1)) (B : BV) (hMr : isM F A 12 128 B) (hw1 : B.1.1 ≤ 5 ∧ B.1.2.1 ≤ 4 ∧ B.1.2.2 ≤ 4) (hp : p < n) (hb : B.1.2.2 < 4) (hb2 : 2 ≤ B.1.1) : Meets l hX10_readOneLaw (k + 2) 144 144 [.ref 123] F A R G (pI (fun v F1 A1 R1 G1 => frR F A F1 A1 ∧ (if (readLP tx n B p).2 = -9 then v = 1 ∧ F1 123 3 = nI (p + 4) ∧ isM F1 A1 12 128 (readLP tx n B p).1 else v = 0 ∧ F1 123 3 = (readLP tx n B p).2) ∧ R = R1 ∧ G = G1)) := by
  refine mm_start rfl (Nat.le_of_ble_eq_true rfl) (fun X hC => ?_)
  show WP hX10_readOneLaw X 144 0 [(0, .ref 123)] [] F A R G
  have hfr := frR.refl F A
  refine wp_aload_n dX10_readOneLaw_0 rfl 0 rfl ?_
  refine wp_iconst (v := 0) dX10_readOneLaw_1 (by decide) ?_
  refine wp_aload_n dX10_readOneLaw_2 rfl 0 rfl ?_
  refine wp_getI fX10_95 rfl (rfl) (by decide) dX10_readOneLaw_3 ?_
  refine wp_top (x' := nI B.1.1) (hMr.1) ?_
  refine wp_iconst (v := 1) dX10_readOneLaw_6 (by decide) ?_
  refine wp_isub dX10_readOneLaw_7 ?_
  refine wp_top (x' := nI (B.1.1 - 1)) (ix_sub (a := B.1.1) (b := 1) rfl rfl (by omega)) ?_
  refine wp_callI (mm_siteV (av := [.int 0, .int (nI (B.1.1 - 1))]) hC lX10_102 (rfl) (by decide) ⟨_, rfl, rfl⟩ rfl rfl (Nat.le_of_ble_eq_true rfl) dX10_readOneLaw_8) (c_X10_figure l (k + 0) _ _ _ _ n tx (p + 1) hR hn60 hn ht h3 0 (nI (B.1.1 - 1)) (by omega) (by decide)) (by omega) (by decide) ?_
  rintro _ F1 A _ _ ⟨rfl, hF1, rfl, rfl, rfl⟩
  by_cases hz1 : figP tx n (p + 1) 0 (nI (B.1.1 - 1)) = -9
  · rw [if_pos hz1] at hF1
    rw [hF1]
    refine wp_top (x' := -9) hz1 ?_
    refine wp_istore_n [1, 0] (by decide) rfl rfl rfl dX10_readOneLaw_11 rfl ?_
    refine wp_iload_n dX10_readOneLaw_12 rfl 1 rfl ?_
    refine wp_bipush (v := (-9)) dX10_readOneLaw_13 (by decide) ?_
    refine wp_icmp_ne 20 dX10_readOneLaw_15 (by decide) (fun c1 => ?_) (fun c1 => ?_)
    · exact absurd rfl c1
    · refine wp_iconst (v := 0) dX10_readOneLaw_18 (by decide) ?_
      exact wp_iret hC rfl rfl dX10_readOneLaw_19 (pI_ok (by rw [readLP_p hb hb2, if_pos hz1]; exact ⟨hfr, by rw [if_neg (show ¬ nI (p + 1) = -9 from nI_ne9 (by omega))]; exact ⟨rfl, h3⟩, rfl, rfl⟩))
  · rw [if_neg hz1] at hF1
    have hl1 := fig_lt (by decide) hz1
    have hfr := hfr.trans (show frR F A F1 A from by rw [hF1]; exact frR.F (Or.inl rfl))
    have hMr : isM F1 A 12 128 B := isM_c hMr ⟨by rw [hF1]; simp [u2, va_up], by rw [hF1]; simp [u2, va_up], by rw [hF1]; simp [u2, va_up]⟩ ⟨rfl, rfl, rfl⟩
    have hn : F1 123 2 = nI n := by rw [hF1]; simp [u2, va_up]; exact hn
    have h3 : F1 123 3 = nI (p + 2) := by rw [hF1, u2_row]; exact va_up_self _ _ _
    refine wp_istore_n [1, 0] (by decide) rfl rfl rfl dX10_readOneLaw_11 rfl ?_
    refine wp_iload_n dX10_readOneLaw_12 rfl 1 rfl ?_
    refine wp_bipush (v := (-9)) dX10_readOneLaw_13 (by decide) ?_
    refine wp_icmp_ne 20 dX10_readOneLaw_15 (by decide) (fun c2 => ?_) (fun c2 => ?_)
    · refine wp_aload_n dX10_readOneLaw_20 rfl 0 rfl ?_
      refine wp_iconst (v := 0) dX10_readOneLaw_21 (by decide) ?_
      refine wp_aload_n dX10_readOneLaw_22 rfl 0 rfl ?_
      refine wp_getI fX10_95 rfl (rfl) (by decide) dX10_readOneLaw_23 ?_
      refine wp_top (x' := nI B.1.1) (hMr.1) ?_
      refine wp_iconst (v := 1) dX10_readOneLaw_26 (by decide) ?_
      refine wp_isub dX10_readOneLaw_27 ?_
      refine wp_top (x' := nI (B.1.1 - 1)) (ix_sub (a := B.1.1) (b := 1) rfl rfl (by omega)) ?_
      refine wp_callI (mm_siteV (av := [.int 0, .int (nI (B.1.1 - 1))]) hC lX10_102 (rfl) (by decide) ⟨_, rfl, rfl⟩ rfl rfl (Nat.le_of_ble_eq_true rfl) dX10_readOneLaw_28) (c_X10_figure l (k + 0) _ _ _ _ n tx (p + 2) hR hn60 hn ht h3 0 (nI (B.1.1 - 1)) (by omega) (by decide)) (by omega) (by decide) ?_
      rintro _ F2 A _ _ ⟨rfl, hF2, rfl, rfl, rfl⟩
      by_cases hz2 : figP tx n (p + 2) 0 (nI (B.1.1 - 1)) = -9
      · rw [if_pos hz2] at hF2
        rw [hF2]
        refine wp_top (x' := -9) hz2 ?_
        refine wp_istore_n [1, 2, 0] (by decide) rfl rfl rfl dX10_readOneLaw_31 rfl ?_
        refine wp_iload_n dX10_readOneLaw_32 rfl 2 rfl ?_
        refine wp_iload_n dX10_readOneLaw_33 rfl 1 rfl ?_
        refine wp_icmp_ne 49 dX10_readOneLaw_34 (by decide) (fun c3 => ?_) (fun c3 => ?_)
        · refine wp_iload_n dX10_readOneLaw_49 rfl 2 rfl ?_
          refine wp_bipush (v := (-9)) dX10_readOneLaw_50 (by decide) ?_
          refine wp_icmp_ne 60 dX10_readOneLaw_52 (by decide) (fun c4 => ?_) (fun c4 => ?_)
          · exact absurd rfl c4
          · refine wp_bipush (v := (-9)) dX10_readOneLaw_55 (by decide) ?_
            refine wp_goto 66 dX10_readOneLaw_57 (by decide) ?_
            refine wp_istore_n [1, 2, 3, 0] (by decide) rfl rfl rfl dX10_readOneLaw_66 rfl ?_
            refine wp_iload_n dX10_readOneLaw_67 rfl 3 rfl ?_
            refine wp_bipush (v := (-9)) dX10_readOneLaw_68 (by decide) ?_
            refine wp_icmp_ne 75 dX10_readOneLaw_70 (by decide) (fun c5 => ?_) (fun c5 => ?_)
            · exact absurd rfl c5
            · refine wp_iconst (v := 0) dX10_readOneLaw_73 (by decide) ?_
              exact wp_iret hC rfl rfl dX10_readOneLaw_74 (pI_ok (by rw [readLP_p hb hb2, if_neg hz1, if_pos hz2]; exact ⟨hfr, by rw [if_neg (show ¬ nI (p + 2) = -9 from nI_ne9 (by omega))]; exact ⟨rfl, h3⟩, rfl, rfl⟩))
        · exact absurd c3.symm hz1
      · rw [if_neg hz2] at hF2
        have hl2 := fig_lt (by decide) hz2
        have hfr := hfr.trans (show frR F1 A F2 A from by rw [hF2]; exact frR.F (Or.inl rfl))
        have hMr : isM F2 A 12 128 B := isM_c hMr ⟨by rw [hF2]; simp [u2, va_up], by rw [hF2]; simp [u2, va_up], by rw [hF2]; simp [u2, va_up]⟩ ⟨rfl, rfl, rfl⟩
        have hn : F2 123 2 = nI n := by rw [hF2]; simp [u2, va_up]; exact hn
        have h3 : F2 123 3 = nI (p + 3) := by rw [hF2, u2_row]; exact va_up_self _ _ _
        refine wp_istore_n [1, 2, 0] (by decide) rfl rfl rfl dX10_readOneLaw_31 rfl ?_
        refine wp_iload_n dX10_readOneLaw_32 rfl 2 rfl ?_
        refine wp_iload_n dX10_readOneLaw_33 rfl 1 rfl ?_
        refine wp_icmp_ne 49 dX10_readOneLaw_34 (by decide) (fun c6 => ?_) (fun c6 => ?_)
        · refine wp_iload_n dX10_readOneLaw_49 rfl 2 rfl ?_
          refine wp_bipush (v := (-9)) dX10_readOneLaw_50 (by decide) ?_
          refine wp_icmp_ne 60 dX10_readOneLaw_52 (by decide) (fun c7 => ?_) (fun c7 => ?_)
          · refine wp_aload_n dX10_readOneLaw_60 rfl 0 rfl ?_
            refine wp_iconst (v := 0) dX10_readOneLaw_61 (by decide) ?_
            refine wp_iconst (v := 1) dX10_readOneLaw_62 (by decide) ?_
            refine wp_callI (mm_siteV (av := [.int 0, .int 1]) hC lX10_102 (rfl) (by decide) ⟨_, rfl, rfl⟩ rfl rfl (Nat.le_of_ble_eq_true rfl) dX10_readOneLaw_63) (c_X10_figure l (k + 0) _ _ _ _ n tx (p + 3) hR hn60 hn ht h3 0 1 (by omega) (by decide)) (by omega) (by decide) ?_
            rintro _ F3 A _ _ ⟨rfl, hF3, rfl, rfl, rfl⟩
            by_cases hz3 : figP tx n (p + 3) 0 1 = -9
            · rw [if_pos hz3] at hF3
              rw [hF3]
              refine wp_top (x' := -9) hz3 ?_
              refine wp_istore_n [1, 2, 3, 0] (by decide) rfl rfl rfl dX10_readOneLaw_66 rfl ?_
              refine wp_iload_n dX10_readOneLaw_67 rfl 3 rfl ?_
              refine wp_bipush (v := (-9)) dX10_readOneLaw_68 (by decide) ?_
              refine wp_icmp_ne 75 dX10_readOneLaw_70 (by decide) (fun c8 => ?_) (fun c8 => ?_)
              · exact absurd rfl c8
              · refine wp_iconst (v := 0) dX10_readOneLaw_73 (by decide) ?_
                exact wp_iret hC rfl rfl dX10_readOneLaw_74 (pI_ok (by rw [readLP_p hb hb2, if_neg hz1, if_neg hz2, if_neg c6, if_pos hz3]; exact ⟨hfr, by rw [if_neg (show ¬ nI (p + 3) = -9 from nI_ne9 (by omega))]; exact ⟨rfl, h3⟩, rfl, rfl⟩))
            · rw [if_neg hz3] at hF3
              have hl3 := fig_lt (by decide) hz3
              have hfr := hfr.trans (show frR F2 A F3 A from by rw [hF3]; exact frR.F (Or.inl rfl))
              have hMr : isM F3 A 12 128 B := isM_c hMr ⟨by rw [hF3]; simp [u2, va_up], by rw [hF3]; simp [u2, va_up], by rw [hF3]; simp [u2, va_up]⟩ ⟨rfl, rfl, rfl⟩
              have hn : F3 123 2 = nI n := by rw [hF3]; simp [u2, va_up]; exact hn
              have h3 : F3 123 3 = nI (p + 4) := by rw [hF3, u2_row]; exact va_up_self _ _ _
              refine wp_istore_n [1, 2, 3, 0] (by decide) rfl rfl rfl dX10_readOneLaw_66 rfl ?_
              refine wp_iload_n dX10_readOneLaw_67 rfl 3 rfl ?_
              refine wp_bipush (v := (-9)) dX10_readOneLaw_68 (by decide) ?_
              refine wp_icmp_ne 75 dX10_readOneLaw_70 (by decide) (fun c9 => ?_) (fun c9 => ?_)
              · refine wp_aload_n dX10_readOneLaw_75 rfl 0 rfl ?_
                refine wp_getO (q := 130) fX10_28 hR rfl (rfl) (by decide) (by decide) rfl dX10_readOneLaw_76 ?_
                refine wp_iconst (v := 3) dX10_readOneLaw_79 (by decide) ?_
                refine wp_aload_n dX10_readOneLaw_80 rfl 0 rfl ?_
                refine wp_getI fX10_109 rfl (rfl) (by decide) dX10_readOneLaw_81 ?_
                refine wp_top (x' := nI B.1.2.2) (hMr.2.2.1) ?_
                refine wp_imul dX10_readOneLaw_84 ?_
                refine wp_iload_n dX10_readOneLaw_85 rfl 1 rfl ?_
                refine wp_iast (3 * B.1.2.2) (ix_mul rfl rfl) (rfl) (by decide) ((show 3 * B.1.2.2 < 12 from by omega)) dX10_readOneLaw_86 ?_
                refine wp_aload_n dX10_readOneLaw_87 rfl 0 rfl ?_
                refine wp_getO (q := 130) fX10_28 hR rfl (rfl) (by decide) (by decide) rfl dX10_readOneLaw_88 ?_
                refine wp_iconst (v := 3) dX10_readOneLaw_91 (by decide) ?_
                refine wp_aload_n dX10_readOneLaw_92 rfl 0 rfl ?_
                refine wp_getI fX10_109 rfl (rfl) (by decide) dX10_readOneLaw_93 ?_
                refine wp_top (x' := nI B.1.2.2) (hMr.2.2.1) ?_
                refine wp_imul dX10_readOneLaw_96 ?_
                refine wp_iconst (v := 1) dX10_readOneLaw_97 (by decide) ?_
                refine wp_iadd dX10_readOneLaw_98 ?_
                refine wp_iload_n dX10_readOneLaw_99 rfl 2 rfl ?_
                refine wp_iast ((3 * B.1.2.2) + 1) (ix_add (ix_mul rfl rfl) rfl) (rfl) (by decide) ((show (3 * B.1.2.2) + 1 < 12 from by omega)) dX10_readOneLaw_100 ?_
                refine wp_aload_n dX10_readOneLaw_101 rfl 0 rfl ?_
                refine wp_getO (q := 130) fX10_28 hR rfl (rfl) (by decide) (by decide) rfl dX10_readOneLaw_102 ?_
                refine wp_iconst (v := 3) dX10_readOneLaw_105 (by decide) ?_
                refine wp_aload_n dX10_readOneLaw_106 rfl 0 rfl ?_
                refine wp_getI fX10_109 rfl (rfl) (by decide) dX10_readOneLaw_107 ?_
                refine wp_top (x' := nI B.1.2.2) (hMr.2.2.1) ?_
                refine wp_imul dX10_readOneLaw_110 ?_
                refine wp_iconst (v := 2) dX10_readOneLaw_111 (by decide) ?_
                refine wp_iadd dX10_readOneLaw_112 ?_
                refine wp_iload_n dX10_readOneLaw_113 rfl 3 rfl ?_
                refine wp_iast ((3 * B.1.2.2) + 2) (ix_add (ix_mul rfl rfl) rfl) (rfl) (by decide) ((show (3 * B.1.2.2) + 2 < 12 from by omega)) dX10_readOneLaw_114 ?_
                refine wp_aload_n dX10_readOneLaw_115 rfl 0 rfl ?_
                refine wp_dup dX10_readOneLaw_116 rfl ?_
                refine wp_getI fX10_109 rfl (rfl) (by decide) dX10_readOneLaw_117 ?_
                refine wp_top (x' := nI B.1.2.2) (hMr.2.2.1) ?_
                refine wp_iconst (v := 1) dX10_readOneLaw_120 (by decide) ?_
                refine wp_iadd dX10_readOneLaw_121 ?_
                refine wp_top (x' := nI (B.1.2.2 + 1)) (nI_1 B.1.2.2) ?_
                refine wp_putI fX10_109 fn_10_16 rfl (rfl) (by decide) dX10_readOneLaw_122 ?_
                refine wp_iconst (v := 1) dX10_readOneLaw_125 (by decide) ?_
                exact wp_iret hC rfl rfl dX10_readOneLaw_126 (pI_ok (by rw [readLP_p hb hb2, if_neg hz1, if_neg hz2, if_neg c6, if_neg hz3]; exact ⟨hfr.trans ((frR.F (Or.inr (Or.inr (Or.inr rfl)))).trans ((frR.A (Or.inr (Or.inr rfl))).trans ((frR.A (Or.inr (Or.inr rfl))).trans (frR.A (Or.inr (Or.inr rfl)))))), by rw [if_pos rfl]; exact ⟨rfl, by simp [u2, va_up]; exact h3, isM_addL _ _ _ hMr⟩, rfl, rfl⟩))
              · exact absurd c9 hz3
          · exact absurd c7 hz2
        · refine wp_aload_n dX10_readOneLaw_37 rfl 0 rfl ?_
          refine wp_dup dX10_readOneLaw_38 rfl ?_
          refine wp_getI fX10_90 rfl (rfl) (by decide) dX10_readOneLaw_39 ?_
          refine wp_top (x' := nI (p + 3)) (h3) ?_
          refine wp_iconst (v := 1) dX10_readOneLaw_42 (by decide) ?_
          refine wp_isub dX10_readOneLaw_43 ?_
          refine wp_top (x' := nI (p + 2)) (ix_sub (a := p + 3) (b := 1) rfl rfl (by omega)) ?_
          refine wp_putI fX10_90 fn_10_3 rfl (rfl) (by decide) dX10_readOneLaw_44 ?_
          obtain ⟨F5, hF5⟩ : ∃ z, z = u2 F2 123 3 (nI (p + 2)) := ⟨_, rfl⟩
          rw [← hF5]
          have hfr := hfr.trans (show frR F2 A F5 A from by rw [hF5]; exact frR.F (Or.inl rfl))
          have h3 : F5 123 3 = nI (p + 2) := by rw [hF5, u2_row, va_up_self]
          refine wp_iconst (v := 0) dX10_readOneLaw_47 (by decide) ?_
          exact wp_iret hC rfl rfl dX10_readOneLaw_48 (pI_ok (by rw [readLP_p hb hb2, if_neg hz1, if_neg hz2, if_pos c6]; exact ⟨hfr, by rw [if_neg (show ¬ nI (p + 2) = -9 from nI_ne9 (by omega))]; exact ⟨rfl, h3⟩, rfl, rfl⟩))
    · exact absurd c2 hz1

