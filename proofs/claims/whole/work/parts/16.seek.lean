set_option maxRecDepth 100000 in
set_option maxHeartbeats 4000000 in
theorem c_X4_rowFrom (l : Launch) (k : Nat) (R : mmR) (G : mmG) (b hk : Nat) (B : BV) (hR : mm_RL R) (hb : mm_K b = 1) (hw : wfB B) (hk5 : hk < B.1.1) : ∀ (m : Nat) (F A : mmF) (S : SV) (d many : Nat), d + m = many → many ≤ 3 → isS F A (65 + 3 * d) S → isB F A b B → Meets l hX4_rowFrom (k + m + 11) 144 144 [.ref 64, .ref b, .int (nI hk), .int (nI d), .int (nI many)] F A R G (pI (fun v F1 A1 R1 G1 => v = rowP B hk m S ∧ frI (65 + 3 * (d + 1)) 79 F A F1 A1 ∧ R = R1 ∧ G = G1)) := by
  intro m
  induction m with
  | zero =>
    intro F A S d many hd hm hS hB
    refine mm_start rfl (Nat.le_of_ble_eq_true rfl) (fun X hC => ?_)
    show WP hX4_rowFrom X 144 0 [(0, .ref 64), (1, .ref b), (2, .int (nI hk)), (3, .int (nI d)), (4, .int (nI many))] [] F A R G
    have hw1 := hw.1
    have hB0 := hB
    have hb2 : 103 ≤ b := by rcases bo_f hb with rfl | rfl <;> decide
    refine wp_aload_n dX4_rowFrom_0 rfl 0 rfl ?_
    refine wp_iload_n dX4_rowFrom_1 rfl 3 rfl ?_
    obtain ⟨a, hae⟩ : ∃ a, a = 65 + 3 * d := ⟨_, rfl⟩
    have ha : mm_K a = 7 := by rw [hae]; exact sk_K (by omega)
    rw [← hae] at hS
    refine wp_aaldO (q := a) hR d (rfl) (rfl) (by decide) ((show d < 5 from by omega)) (hae.symm) dX4_rowFrom_2 ?_
    refine wp_astore [1, 2, 3, 4, 5, 0] (by decide) rfl rfl rfl dX4_rowFrom_3 ?_
    refine wp_iload_n dX4_rowFrom_5 rfl 3 rfl ?_
    refine wp_iload dX4_rowFrom_6 4 rfl ?_
    refine wp_icmp_ge 16 dX4_rowFrom_8 (by decide) (fun c1 => ?_) (fun c1 => ?_)
    · replace c1 := (ix_le (a := many) (b := d) (rfl) (rfl) (by omega) (by omega)).mp c1
      refine wp_aload dX4_rowFrom_16 5 rfl ?_
      refine wp_iload_n dX4_rowFrom_18 rfl 2 rfl ?_
      refine wp_callP (e := upP (S.2.2 2) (nI hk)) (mm_siteV (av := [.int (nI hk)]) hC lX4_43 (ha) (st_l0 ha) ⟨_, rfl, rfl⟩ rfl rfl (Nat.le_of_ble_eq_true rfl) dX4_rowFrom_19) (cS_isUp l (k + 9) _ _ _ _ _ _ _ ha hS) (by omega) (by decide) ?_
      refine wp_if_eq 30 dX4_rowFrom_22 (by decide) (fun c2 => ?_) (fun c2 => ?_)
      · refine wp_iconst (v := 0) dX4_rowFrom_30 (by decide) ?_
        exact wp_iret hC rfl rfl dX4_rowFrom_31 (pI_ok (by rw [rowP]; exact ⟨by simp [*], frI.refl _ _ F A, rfl, rfl⟩))
      · refine wp_bipush (v := (-9)) dX4_rowFrom_25 (by decide) ?_
        refine wp_goto 31 dX4_rowFrom_27 (by decide) ?_
        exact wp_iret hC rfl rfl dX4_rowFrom_31 (pI_ok (by rw [rowP]; exact ⟨by simp [*], frI.refl _ _ F A, rfl, rfl⟩))
    · replace c1 := mt (ix_le (a := many) (b := d) (rfl) (rfl) (by omega) (by omega)).mpr c1
      exact absurd c1 (by omega)
  | succ m ih =>
    intro F A S d many hd hm hS hB
    refine mm_start rfl (Nat.le_of_ble_eq_true rfl) (fun X hC => ?_)
    show WP hX4_rowFrom X 144 0 [(0, .ref 64), (1, .ref b), (2, .int (nI hk)), (3, .int (nI d)), (4, .int (nI many))] [] F A R G
    have hw1 := hw.1
    have hB0 := hB
    have hb2 : 103 ≤ b := by rcases bo_f hb with rfl | rfl <;> decide
    refine wp_aload_n dX4_rowFrom_0 rfl 0 rfl ?_
    refine wp_iload_n dX4_rowFrom_1 rfl 3 rfl ?_
    obtain ⟨a, hae⟩ : ∃ a, a = 65 + 3 * d := ⟨_, rfl⟩
    have ha : mm_K a = 7 := by rw [hae]; exact sk_K (by omega)
    rw [← hae] at hS
    refine wp_aaldO (q := a) hR d (rfl) (rfl) (by decide) ((show d < 5 from by omega)) (hae.symm) dX4_rowFrom_2 ?_
    have hS0 := hS
    refine wp_astore [1, 2, 3, 4, 5, 0] (by decide) rfl rfl rfl dX4_rowFrom_3 ?_
    refine wp_iload_n dX4_rowFrom_5 rfl 3 rfl ?_
    refine wp_iload dX4_rowFrom_6 4 rfl ?_
    refine wp_icmp_ge 16 dX4_rowFrom_8 (by decide) (fun c1 => ?_) (fun c1 => ?_)
    · replace c1 := (ix_le (a := many) (b := d) (rfl) (rfl) (by omega) (by omega)).mp c1
      exact absurd c1 (by omega)
    · replace c1 := mt (ix_le (a := many) (b := d) (rfl) (rfl) (by omega) (by omega)).mpr c1
      refine wp_iload_n dX4_rowFrom_11 rfl 3 rfl ?_
      refine wp_iconst (v := 3) dX4_rowFrom_12 (by decide) ?_
      refine wp_icmp_lt 32 dX4_rowFrom_13 (by decide) (fun c2 => ?_) (fun c2 => ?_)
      · replace c2 := (ix_lt (a := d) (b := 3) (rfl) (rfl) (by omega) (by omega)).mp c2
        refine wp_iconst (v := 0) dX4_rowFrom_32 (by decide) ?_
        refine wp_istore [1, 2, 3, 4, 5, 6, 0] (by decide) rfl rfl rfl dX4_rowFrom_33 ?_
        have lp : ∀ (nn : Nat) (t : Nat) (F1 A1 : mmF), (t ≤ B.1.2.1) → (rowP B hk (m + 1) S = scan (fun t => scan (rowS B S (mm_hu m) (rowP B hk m) t) 0 B.1.1) t (B.1.2.1 - t)) → (isS F1 A1 a S) → (frI (65 + 3 * (d + 1)) 79 F A F1 A1) → B.1.2.1 - t < nn → WP hX4_rowFrom X 144 35 [(0, .ref 64), (1, .ref b), (2, .int (nI hk)), (3, .int (nI d)), (4, .int (nI many)), (5, .ref a), (6, .int (nI t))] [] F1 A1 R G := by
          intro nn
          induction nn with
          | zero => intro t F1 A1 _ _ _ _ hm; exact absurd hm (Nat.not_lt_zero _)
          | succ nn ih_lp =>
            intro t F1 A1 ht hv hS hf hm_lp
            have hB := hf.b (by omega) hB0
            refine wp_iload dX4_rowFrom_35 6 rfl ?_
            refine wp_aload_n dX4_rowFrom_37 rfl 1 rfl ?_
            refine wp_getI fX4_47 rfl (hb) (bo_l0 hb) dX4_rowFrom_38 ?_
            refine wp_top (x' := nI B.1.2.1) (hB.1.2.1) ?_
            refine wp_icmp_ge 154 dX4_rowFrom_41 (by decide) (fun c3 => ?_) (fun c3 => ?_)
            · replace c3 := (ix_le (a := B.1.2.1) (b := t) (rfl) (rfl) (by omega) (by omega)).mp c3
              refine wp_bipush (v := (-9)) dX4_rowFrom_154 (by decide) ?_
              exact wp_iret hC rfl rfl dX4_rowFrom_156 (pI_ok ⟨by rw [hv, scan_end (by omega)], hf.wide (by omega) (by omega), rfl, rfl⟩)
            · replace c3 := mt (ix_le (a := B.1.2.1) (b := t) (rfl) (rfl) (by omega) (by omega)).mpr c3
              refine wp_iconst (v := 0) dX4_rowFrom_44 (by decide) ?_
              refine wp_istore [1, 2, 3, 4, 5, 6, 7, 0] (by decide) rfl rfl rfl dX4_rowFrom_45 ?_
              have lq : ∀ (mm : Nat) (j : Nat) (F2 A2 : mmF), (j ≤ B.1.1) → (rowP B hk (m + 1) S = if scan (rowS B S (mm_hu m) (rowP B hk m) t) j (B.1.1 - j) = -9 then scan (fun t => scan (rowS B S (mm_hu m) (rowP B hk m) t) 0 B.1.1) (t + 1) (B.1.2.1 - (t + 1)) else scan (rowS B S (mm_hu m) (rowP B hk m) t) j (B.1.1 - j)) → (isS F2 A2 a S) → (frI (65 + 3 * (d + 1)) 79 F A F2 A2) → B.1.1 - j < mm → WP hX4_rowFrom X 144 47 [(0, .ref 64), (1, .ref b), (2, .int (nI hk)), (3, .int (nI d)), (4, .int (nI many)), (5, .ref a), (6, .int (nI t)), (7, .int (nI j))] [] F2 A2 R G := by
                intro mm
                induction mm with
                | zero => intro j F2 A2 _ _ _ _ hm; exact absurd hm (Nat.not_lt_zero _)
                | succ mm ih_lq =>
                  intro j F2 A2 hj hv2 hS hf hm_lq
                  have hB := hf.b (by omega) hB0
                  refine wp_iload dX4_rowFrom_47 7 rfl ?_
                  refine wp_aload_n dX4_rowFrom_49 rfl 1 rfl ?_
                  refine wp_getI fX4_52 rfl (hb) (bo_l0 hb) dX4_rowFrom_50 ?_
                  refine wp_top (x' := nI B.1.1) (hB.1.1) ?_
                  refine wp_icmp_ge 148 dX4_rowFrom_53 (by decide) (fun c4 => ?_) (fun c4 => ?_)
                  · replace c4 := (ix_le (a := B.1.1) (b := j) (rfl) (rfl) (by omega) (by omega)).mp c4
                    refine wp_iinc (v := nI (t + 1)) 6 rfl (by exact nI_1 t) [1, 2, 3, 4, 5, 6, 0, 8] (by decide) rfl rfl rfl dX4_rowFrom_148 ?_
                    refine wp_goto 35 dX4_rowFrom_151 (by decide) ?_
                    refine wp_lv [0, 1, 2, 3, 4, 5, 6] rfl ?_
                    exact ih_lp (t + 1) F2 A2 (by omega) (by rw [hv2, if_pos (scan_end (by omega))]) hS hf (by omega)
                  · replace c4 := mt (ix_le (a := B.1.1) (b := j) (rfl) (rfl) (by omega) (by omega)).mpr c4
                    refine wp_aload dX4_rowFrom_56 5 rfl ?_
                    refine wp_aload_n dX4_rowFrom_58 rfl 1 rfl ?_
                    refine wp_iload dX4_rowFrom_59 6 rfl ?_
                    refine wp_iload dX4_rowFrom_61 7 rfl ?_
                    refine wp_callP (e := canB B S t j) (mm_siteV (av := [.ref b, .int (nI t), .int (nI j)]) hC lX4_55 (ha) (st_l0 ha) ⟨_, rfl, rfl⟩ rfl rfl (Nat.le_of_ble_eq_true rfl) dX4_rowFrom_63) (c_X7_canBeThrownAt l (k + m + 9) _ _ _ _ _ _ t j S B hR ha hb hS hB hw (by omega) (by omega)) (by omega) (by decide) ?_
                    refine wp_if_ne 72 dX4_rowFrom_66 (by decide) (fun c5 => ?_) (fun c5 => ?_)
                    · refine wp_aload_n dX4_rowFrom_72 rfl 0 rfl ?_
                      refine wp_iload_n dX4_rowFrom_73 rfl 3 rfl ?_
                      refine wp_iconst (v := 1) dX4_rowFrom_74 (by decide) ?_
                      refine wp_iadd dX4_rowFrom_75 ?_
                      refine wp_top (x' := nI (d + 1)) (nI_1 d) ?_
                      obtain ⟨c, hce⟩ : ∃ c, c = 65 + 3 * (d + 1) := ⟨_, rfl⟩
                      have hc : mm_K c = 7 := by rw [hce]; exact sk_K (by omega)
                      refine wp_aaldO (q := c) hR (d + 1) (rfl) (rfl) (by decide) ((show d + 1 < 5 from by omega)) (hce.symm) dX4_rowFrom_76 ?_
                      refine wp_aload dX4_rowFrom_77 5 rfl ?_
                      refine wp_callV (mm_siteV (av := [.ref a]) hC lX4_26 (hc) (st_l0 hc) ⟨_, rfl, rfl⟩ rfl rfl (Nat.le_of_ble_eq_true rfl) dX4_rowFrom_79) (c_X7_becomeAs l (k + m + 9) _ _ _ _ _ _ S hR hc ha (by omega) hS) (by omega) (by decide) (by decide) ?_
                      rintro F3 A3 _ _ ⟨hS3, hg3, rfl, rfl⟩
                      have hB3 := hg3.b hc hb hB
                      refine wp_aload_n dX4_rowFrom_82 rfl 0 rfl ?_
                      refine wp_iload_n dX4_rowFrom_83 rfl 3 rfl ?_
                      refine wp_iconst (v := 1) dX4_rowFrom_84 (by decide) ?_
                      refine wp_iadd dX4_rowFrom_85 ?_
                      refine wp_top (x' := nI (d + 1)) (nI_1 d) ?_
                      refine wp_aaldO (q := c) hR (d + 1) (rfl) (rfl) (by decide) ((show d + 1 < 5 from by omega)) (hce.symm) dX4_rowFrom_86 ?_
                      refine wp_aload_n dX4_rowFrom_87 rfl 1 rfl ?_
                      refine wp_iload dX4_rowFrom_88 6 rfl ?_
                      refine wp_iload dX4_rowFrom_90 7 rfl ?_
                      refine wp_callI (mm_siteV (av := [.ref b, .int (nI t), .int (nI j)]) hC lX4_59 (hc) (st_l0 hc) ⟨_, rfl, rfl⟩ rfl rfl (Nat.le_of_ble_eq_true rfl) dX4_rowFrom_92) (c_X7_strike l (k + m + 1) _ _ _ _ _ _ t j S B hR hc hb hS3 hB3 hw (by omega) (by omega)) (by omega) (by decide) ?_
                      rintro _ F4 A4 _ _ ⟨rfl, hS4, hg4, rfl, rfl⟩
                      have hB4 := hg4.b hc hb hB3
                      rw [hce] at hS4
                      refine wp_pop dX4_rowFrom_95 rfl ?_
                      refine wp_aload_n dX4_rowFrom_96 rfl 0 rfl ?_
                      refine wp_aload_n dX4_rowFrom_97 rfl 1 rfl ?_
                      refine wp_iload_n dX4_rowFrom_98 rfl 2 rfl ?_
                      refine wp_iload_n dX4_rowFrom_99 rfl 3 rfl ?_
                      refine wp_iconst (v := 1) dX4_rowFrom_100 (by decide) ?_
                      refine wp_iadd dX4_rowFrom_101 ?_
                      refine wp_top (x' := nI (d + 1)) (nI_1 d) ?_
                      refine wp_iload dX4_rowFrom_102 4 rfl ?_
                      refine wp_callI (mm_siteS (av := [.ref 64, .ref b, .int (nI hk), .int (nI (d + 1)), .int (nI many)]) hC lX4_39 rfl rfl (Nat.le_of_ble_eq_true rfl) dX4_rowFrom_104) (ih _ _ (strikeP B S t j).1 (d + 1) many (by omega) (by omega) hS4 hB4) (by omega) (by decide) ?_
                      rintro _ F5 A5 _ _ ⟨rfl, hg5, rfl, rfl⟩
                      have hf := hf.trans (((hg3.I (lo := 65 + 3 * (d + 1)) (hi := 79) (by omega) (by omega)).trans (hg4.I (by omega) (by omega))).trans (hg5.wide (by omega) (by omega)))
                      have hS : isS F5 A5 a S := hf.s (by omega) hS0
                      refine wp_istore [1, 2, 3, 4, 5, 6, 7, 8, 0] (by decide) rfl rfl rfl dX4_rowFrom_107 ?_
                      refine wp_iload dX4_rowFrom_109 8 rfl ?_
                      refine wp_bipush (v := (-9)) dX4_rowFrom_111 (by decide) ?_
                      refine wp_icmp_eq 142 dX4_rowFrom_113 (by decide) (fun c6 => ?_) (fun c6 => ?_)
                      · refine wp_iinc (v := nI (j + 1)) 7 rfl (by exact nI_1 j) [1, 2, 3, 4, 5, 6, 7, 0, 9] (by decide) rfl rfl rfl dX4_rowFrom_142 ?_
                        refine wp_goto 47 dX4_rowFrom_145 (by decide) ?_
                        refine wp_lv [0, 1, 2, 3, 4, 5, 6, 7] rfl ?_
                        exact ih_lq (j + 1) F5 A5 (by omega) (by rw [hv2, scan_go (by omega) (by unfold rowS; simp [*])]) hS hf (by omega)
                      · obtain ⟨hrs, hne⟩ := rowS_val (m := m) (by omega) (by omega) (by omega) (rowP_or (hk := hk) hw m (by omega)) c5 c6
                        refine wp_bipush (v := 10) dX4_rowFrom_116 (by decide) ?_
                        refine wp_iload dX4_rowFrom_118 6 rfl ?_
                        refine wp_iconst (v := 1) dX4_rowFrom_120 (by decide) ?_
                        refine wp_iadd dX4_rowFrom_121 ?_
                        refine wp_imul dX4_rowFrom_122 ?_
                        refine wp_iload dX4_rowFrom_123 7 rfl ?_
                        refine wp_iadd dX4_rowFrom_125 ?_
                        refine wp_iconst (v := 1) dX4_rowFrom_126 (by decide) ?_
                        refine wp_iadd dX4_rowFrom_127 ?_
                        refine wp_iload dX4_rowFrom_128 4 rfl ?_
                        refine wp_iload_n dX4_rowFrom_130 rfl 3 rfl ?_
                        refine wp_isub dX4_rowFrom_131 ?_
                        refine wp_iconst (v := 1) dX4_rowFrom_132 (by decide) ?_
                        refine wp_isub dX4_rowFrom_133 ?_
                        refine wp_top (x' := nI m) ((ix_sub (a := many - d) (b := 1) (ix_sub rfl rfl (by omega)) rfl (by omega)).trans (by rw [show many - d - 1 = m by omega])) ?_
                        refine wp_callP (e := mm_hu m) (mm_siteSN (av := [.int (nI m)]) hC lX4_63 rfl rfl (Nat.le_of_ble_eq_true rfl) dX4_rowFrom_134) (c_X9_hundreds l (k + m + 11) _ _ _ _ m (by omega)) (by omega) (by decide) ?_
                        refine wp_imul dX4_rowFrom_137 ?_
                        refine wp_iload dX4_rowFrom_138 8 rfl ?_
                        refine wp_iadd dX4_rowFrom_140 ?_
                        exact wp_iret hC rfl rfl dX4_rowFrom_141 (pI_ok ⟨by rw [hv2, scan_at (by omega) hne, if_neg hne, hrs], hf.wide (by omega) (by omega), rfl, rfl⟩)
                    · refine wp_goto 142 dX4_rowFrom_69 (by decide) ?_
                      refine wp_iinc (v := nI (j + 1)) 7 rfl (by exact nI_1 j) [1, 2, 3, 4, 5, 6, 7, 0] (by decide) rfl rfl rfl dX4_rowFrom_142 ?_
                      refine wp_goto 47 dX4_rowFrom_145 (by decide) ?_
                      exact ih_lq (j + 1) F2 A2 (by omega) (by rw [hv2, scan_go (by omega) (by unfold rowS; simp [*])]) hS hf (by omega)
              exact lq (B.1.1 + 1) 0 F1 A1 (Nat.zero_le _) (by rw [hv, show B.1.2.1 - t = B.1.2.1 - (t + 1) + 1 by omega, scan, Nat.sub_zero]) hS hf (by omega)
        exact lp (B.1.2.1 + 1) 0 F A (Nat.zero_le _) rfl hS (frI.refl _ _ F A) (by omega)
      · replace c2 := mt (ix_lt (a := d) (b := 3) (rfl) (rfl) (by omega) (by omega)).mpr c2
        exact absurd c2 (by omega)
