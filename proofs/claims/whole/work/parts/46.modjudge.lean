set_option maxHeartbeats 4000000 in
set_option maxRecDepth 100000 in
set_option maxHeartbeats 600000 in
theorem c_X10_does (l : Launch) (k : Nat) (F A : mmF) (R : mmR) (G : mmG) (x : Nat) (T : SV) (B : BV) (hR : mm_RL R) (hM : isM F A 4 125 B) (hw : wfB B) (hT : isP A 132 T) (hdT : dn T) (hkT : ∀ h, h < B.1.1 → bt (T.2.2 3) (nI h) = 0 ∨ B.2 3 h = 3) (hpd : ∃ n, n ≤ 9 ∧ T.2.2 6 = nI n) (hx : x < 100) : Meets l hX10_does (k + 4) 144 144 [.ref 123, .int (nI x)] F A R G (pI (fun v F1 A1 R1 G1 => v = (doP B T (x / 10) (x % 10)).2 ∧ (¬ v = 0 → isP A1 132 (doP B T (x / 10) (x % 10)).1) ∧ frG 30 30 132 F A F1 A1 ∧ R = R1 ∧ G = G1)) := by
  refine mm_start rfl (Nat.le_of_ble_eq_true rfl) (fun X hC => ?_)
  show WP hX10_does X 144 0 [(0, .ref 123), (1, .int (nI x))] [] F A R G
  have hw1 := hw.1
  refine wp_iload_n dX10_does_0 rfl 1 rfl ?_
  refine wp_bipush (v := 10) dX10_does_1 (by decide) ?_
  refine wp_idiv dX10_does_3 (by decide) ?_
  refine wp_top (x' := nI (x / 10)) (ix_div (a := x) (b := 10) rfl rfl (by omega) (by decide) (by decide)) ?_
  rcases (show x / 10 = 0 ∨ x / 10 = 1 ∨ x / 10 = 2 ∨ x / 10 = 3 ∨ x / 10 = 4 ∨ x / 10 = 5 ∨ x / 10 = 6 ∨ x / 10 = 7 ∨ x / 10 = 8 ∨ x / 10 = 9 by omega) with hq | hq | hq | hq | hq | hq | hq | hq | hq | hq
  · refine wp_top (x' := nI 0) (by rw [hq]) ?_
    refine wp_istore_n [1, 2, 0] (by decide) rfl rfl rfl dX10_does_4 rfl ?_
    refine wp_iload_n dX10_does_5 rfl 1 rfl ?_
    refine wp_bipush (v := 10) dX10_does_6 (by decide) ?_
    refine wp_irem dX10_does_8 (by decide) ?_
    refine wp_top (x' := nI (x % 10)) (ix_rem (a := x) (b := 10) rfl rfl (by omega) (by decide) (by decide)) ?_
    refine wp_istore_n [1, 2, 3, 0] (by decide) rfl rfl rfl dX10_does_9 rfl ?_
    refine wp_iload_n dX10_does_10 rfl 1 rfl ?_
    refine wp_bipush (v := 60) dX10_does_11 (by decide) ?_
    refine wp_icmp_ne 55 dX10_does_13 (by decide) (fun c1 => ?_) (fun c1 => ?_)
    · replace c1 := mt (ix_eq (a := x) (b := 60) (rfl) (rfl) (by omega) (by omega)).mpr c1
      refine wp_aload_n dX10_does_55 rfl 0 rfl ?_
      refine wp_iload_n dX10_does_56 rfl 3 rfl ?_
      refine wp_callP (e := if isIn (nI (x % 10)) (nI B.1.1) = 0 then 1 else 0) (mm_siteV (av := [.int (nI (x % 10))]) hC lX10_179 (rfl) (by decide) ⟨_, rfl, rfl⟩ rfl rfl (Nat.le_of_ble_eq_true rfl) dX10_does_57) (c_X10_noHusk l (k + 2) _ _ _ _ _ B hM hw) (by omega) (by decide) ?_
      refine wp_if_ne 68 dX10_does_60 (by decide) (fun c2 => ?_) (fun c2 => ?_)
      · rw [ite01, Classical.not_not] at c2
        have hh : ¬ x % 10 < B.1.1 := fun h => absurd c2 (isIn_ok h (by omega))
        refine wp_iconst (v := 0) dX10_does_68 (by decide) ?_
        exact wp_iret hC rfl rfl dX10_does_69 (pI_ok (by rw [show (doP B T (x / 10) (x % 10)).2 = 0 from by unfold doP; rw [hq, if_neg (by decide), if_neg hh]]; exact ⟨rfl, fun h => absurd rfl h, frG.refl 30 30 132 F A, rfl, rfl⟩))
      · rw [ite01] at c2
        have hh : x % 10 < B.1.1 := by rcases Nat.lt_or_ge (x % 10) B.1.1 with h | h; exact h; exact absurd (by rw [isIn_nI (by omega) (by omega), if_neg (by omega)]) c2
        refine wp_iload_n dX10_does_63 rfl 2 rfl ?_
        refine wp_iconst (v := 5) dX10_does_64 (by decide) ?_
        refine wp_icmp_le 70 dX10_does_65 (by decide) (fun c3 => ?_) (fun c3 => ?_)
        · refine wp_aload_n dX10_does_70 rfl 0 rfl ?_
          refine wp_getO (q := 132) fX10_34 hR rfl (rfl) (by decide) (by decide) rfl dX10_does_71 ?_
          refine wp_bipush (v := 12) dX10_does_74 (by decide) ?_
          refine wp_iald 12 (rfl) (rfl) (by decide) ((show 12 < 15 from by omega)) dX10_does_76 ?_
          refine wp_top (x' := T.2.2 2) (hT 12 (by decide)) ?_
          refine wp_iload_n dX10_does_77 rfl 3 rfl ?_
          refine wp_callP (e := bt (T.2.2 2) (nI (x % 10))) (mm_siteS (av := [.int (T.2.2 2), .int (nI (x % 10))]) hC lX10_144 rfl rfl (Nat.le_of_ble_eq_true rfl) dX10_does_78) (c_X10_has l (k + 3) _ _ _ _ (T.2.2 2) (nI (x % 10))) (by omega) (by decide) ?_
          refine wp_istore [1, 2, 3, 4, 0] (by decide) rfl rfl rfl dX10_does_81 ?_
          refine wp_iload_n dX10_does_83 rfl 2 rfl ?_
          refine wp_if_ne 102 dX10_does_84 (by decide) (fun c4 => ?_) (fun c4 => ?_)
          · exact absurd (by decide) c4
          · refine wp_iload dX10_does_87 4 rfl ?_
            refine wp_if_eq 102 dX10_does_89 (by decide) (fun c5 => ?_) (fun c5 => ?_)
            · refine wp_iload_n dX10_does_102 rfl 2 rfl ?_
              refine wp_iconst (v := 5) dX10_does_103 (by decide) ?_
              refine wp_icmp_ne 127 dX10_does_104 (by decide) (fun c6 => ?_) (fun c6 => ?_)
              · refine wp_iload_n dX10_does_127 rfl 2 rfl ?_
                refine wp_i2l dX10_does_128 ?_
                refine wp_lconst (v := 1) dX10_does_129 rfl ?_
                refine wp_topL (x' := (1 : Int32).toInt64) (by decide) ?_
                refine wp_ldc2 (v := 4) k_1049 dX10_does_130 ?_
                refine wp_topL (x' := (4 : Int32).toInt64) (by decide) ?_
                refine wp_callP (e := inP (nI 0) 1 4) (mm_siteS (av := [.long ((nI 0).toInt64), .long ((1 : Int32).toInt64), .long ((4 : Int32).toInt64)]) hC lX10_78 rfl rfl (Nat.le_of_ble_eq_true rfl) dX10_does_133) (c_X10_in l (k + 3) _ _ _ _ (nI 0) 1 4) (by omega) (by decide) ?_
                refine wp_top (x' := 0) (by decide) ?_
                refine wp_if_eq 170 dX10_does_136 (by decide) (fun c7 => ?_) (fun c7 => ?_)
                · refine wp_iconst (v := 0) dX10_does_170 (by decide) ?_
                  exact wp_iret hC rfl rfl dX10_does_171 (pI_ok (by rw [show (doP B T (x / 10) (x % 10)).2 = 0 from by unfold doP; rw [hq, if_neg (by decide), if_pos hh, if_pos rfl, if_pos c5]]; exact ⟨rfl, fun h => absurd rfl h, frG.refl 30 30 132 F A, rfl, rfl⟩))
                · exact absurd (by decide) c7
              · exact absurd c6 (by decide)
            · refine wp_aload_n dX10_does_92 rfl 0 rfl ?_
              refine wp_getO (q := 132) fX10_34 hR rfl (rfl) (by decide) (by decide) rfl dX10_does_93 ?_
              refine wp_iload_n dX10_does_96 rfl 3 rfl ?_
              refine wp_callV (mm_siteS (av := [.ref 132, .int (nI (x % 10))]) hC lX10_155 rfl rfl (Nat.le_of_ble_eq_true rfl) dX10_does_97) (c_X10_stand l (k + 3) _ _ _ _ 132 (x % 10) T (Or.inr (Or.inl rfl)) hT hdT (by omega) c5) (by omega) (by decide) (by decide) ?_
              rintro F A2 _ _ ⟨rfl, hT2, hr2, rfl, rfl⟩
              refine wp_iconst (v := 1) dX10_does_100 (by decide) ?_
              exact wp_iret hC rfl rfl dX10_does_101 (pI_ok (by rw [show doP B T (x / 10) (x % 10) = (setS T (x % 10), 1) from by unfold doP; rw [hq, if_neg (by decide), if_pos hh, if_pos rfl, if_neg c5]]; exact ⟨rfl, fun _ => hT2, frG.A (Or.inl rfl) hr2, rfl, rfl⟩))
        · exact absurd (by decide) c3
    · replace c1 := (ix_eq (a := x) (b := 60) (rfl) (rfl) (by omega) (by omega)).mp c1
      exact absurd c1 (by omega)
  · refine wp_top (x' := nI 1) (by rw [hq]) ?_
    refine wp_istore_n [1, 2, 0] (by decide) rfl rfl rfl dX10_does_4 rfl ?_
    refine wp_iload_n dX10_does_5 rfl 1 rfl ?_
    refine wp_bipush (v := 10) dX10_does_6 (by decide) ?_
    refine wp_irem dX10_does_8 (by decide) ?_
    refine wp_top (x' := nI (x % 10)) (ix_rem (a := x) (b := 10) rfl rfl (by omega) (by decide) (by decide)) ?_
    refine wp_istore_n [1, 2, 3, 0] (by decide) rfl rfl rfl dX10_does_9 rfl ?_
    refine wp_iload_n dX10_does_10 rfl 1 rfl ?_
    refine wp_bipush (v := 60) dX10_does_11 (by decide) ?_
    refine wp_icmp_ne 55 dX10_does_13 (by decide) (fun c8 => ?_) (fun c8 => ?_)
    · replace c8 := mt (ix_eq (a := x) (b := 60) (rfl) (rfl) (by omega) (by omega)).mpr c8
      refine wp_aload_n dX10_does_55 rfl 0 rfl ?_
      refine wp_iload_n dX10_does_56 rfl 3 rfl ?_
      refine wp_callP (e := if isIn (nI (x % 10)) (nI B.1.1) = 0 then 1 else 0) (mm_siteV (av := [.int (nI (x % 10))]) hC lX10_179 (rfl) (by decide) ⟨_, rfl, rfl⟩ rfl rfl (Nat.le_of_ble_eq_true rfl) dX10_does_57) (c_X10_noHusk l (k + 2) _ _ _ _ _ B hM hw) (by omega) (by decide) ?_
      refine wp_if_ne 68 dX10_does_60 (by decide) (fun c9 => ?_) (fun c9 => ?_)
      · rw [ite01, Classical.not_not] at c9
        have hh : ¬ x % 10 < B.1.1 := fun h => absurd c9 (isIn_ok h (by omega))
        refine wp_iconst (v := 0) dX10_does_68 (by decide) ?_
        exact wp_iret hC rfl rfl dX10_does_69 (pI_ok (by rw [show (doP B T (x / 10) (x % 10)).2 = 0 from by unfold doP; rw [hq, if_neg (by decide), if_neg hh]]; exact ⟨rfl, fun h => absurd rfl h, frG.refl 30 30 132 F A, rfl, rfl⟩))
      · rw [ite01] at c9
        have hh : x % 10 < B.1.1 := by rcases Nat.lt_or_ge (x % 10) B.1.1 with h | h; exact h; exact absurd (by rw [isIn_nI (by omega) (by omega), if_neg (by omega)]) c9
        refine wp_iload_n dX10_does_63 rfl 2 rfl ?_
        refine wp_iconst (v := 5) dX10_does_64 (by decide) ?_
        refine wp_icmp_le 70 dX10_does_65 (by decide) (fun c10 => ?_) (fun c10 => ?_)
        · refine wp_aload_n dX10_does_70 rfl 0 rfl ?_
          refine wp_getO (q := 132) fX10_34 hR rfl (rfl) (by decide) (by decide) rfl dX10_does_71 ?_
          refine wp_bipush (v := 12) dX10_does_74 (by decide) ?_
          refine wp_iald 12 (rfl) (rfl) (by decide) ((show 12 < 15 from by omega)) dX10_does_76 ?_
          refine wp_top (x' := T.2.2 2) (hT 12 (by decide)) ?_
          refine wp_iload_n dX10_does_77 rfl 3 rfl ?_
          refine wp_callP (e := bt (T.2.2 2) (nI (x % 10))) (mm_siteS (av := [.int (T.2.2 2), .int (nI (x % 10))]) hC lX10_144 rfl rfl (Nat.le_of_ble_eq_true rfl) dX10_does_78) (c_X10_has l (k + 3) _ _ _ _ (T.2.2 2) (nI (x % 10))) (by omega) (by decide) ?_
          refine wp_istore [1, 2, 3, 4, 0] (by decide) rfl rfl rfl dX10_does_81 ?_
          refine wp_iload_n dX10_does_83 rfl 2 rfl ?_
          refine wp_if_ne 102 dX10_does_84 (by decide) (fun c11 => ?_) (fun c11 => ?_)
          · refine wp_iload_n dX10_does_102 rfl 2 rfl ?_
            refine wp_iconst (v := 5) dX10_does_103 (by decide) ?_
            refine wp_icmp_ne 127 dX10_does_104 (by decide) (fun c12 => ?_) (fun c12 => ?_)
            · refine wp_iload_n dX10_does_127 rfl 2 rfl ?_
              refine wp_i2l dX10_does_128 ?_
              refine wp_lconst (v := 1) dX10_does_129 rfl ?_
              refine wp_topL (x' := (1 : Int32).toInt64) (by decide) ?_
              refine wp_ldc2 (v := 4) k_1049 dX10_does_130 ?_
              refine wp_topL (x' := (4 : Int32).toInt64) (by decide) ?_
              refine wp_callP (e := inP (nI 1) 1 4) (mm_siteS (av := [.long ((nI 1).toInt64), .long ((1 : Int32).toInt64), .long ((4 : Int32).toInt64)]) hC lX10_78 rfl rfl (Nat.le_of_ble_eq_true rfl) dX10_does_133) (c_X10_in l (k + 3) _ _ _ _ (nI 1) 1 4) (by omega) (by decide) ?_
              refine wp_top (x' := 1) (by decide) ?_
              refine wp_if_eq 170 dX10_does_136 (by decide) (fun c13 => ?_) (fun c13 => ?_)
              · exact absurd c13 (by decide)
              · refine wp_aload_n dX10_does_139 rfl 0 rfl ?_
                refine wp_iload_n dX10_does_140 rfl 2 rfl ?_
                refine wp_iconst (v := 1) dX10_does_141 (by decide) ?_
                refine wp_isub dX10_does_142 ?_
                refine wp_callP (e := if isIn (nI 0) (nI B.1.2.1) = 0 then 1 else 0) (mm_siteV (av := [.int ((nI 1) - 1)]) hC lX10_183 (rfl) (by decide) ⟨_, rfl, rfl⟩ rfl rfl (Nat.le_of_ble_eq_true rfl) dX10_does_143) (c_X10_noThrower l (k + 2) _ _ _ _ _ B hM hw) (by omega) (by decide) ?_
                refine wp_if_ne 170 dX10_does_146 (by decide) (fun c14 => ?_) (fun c14 => ?_)
                · rw [ite01, Classical.not_not] at c14
                  have ht : ¬ 0 < B.1.2.1 := fun h => absurd c14 (isIn_ok h (by omega))
                  refine wp_iconst (v := 0) dX10_does_170 (by decide) ?_
                  exact wp_iret hC rfl rfl dX10_does_171 (pI_ok (by rw [show (doP B T (x / 10) (x % 10)).2 = 0 from by unfold doP; rw [hq, if_neg (by decide), if_pos hh, if_neg (by decide), if_neg (by decide), if_neg ht]]; exact ⟨rfl, fun h => absurd rfl h, frG.refl 30 30 132 F A, rfl, rfl⟩))
                · rw [ite01] at c14
                  have ht : 0 < B.1.2.1 := by rcases Nat.lt_or_ge 0 B.1.2.1 with h | h; exact h; exact absurd (by rw [isIn_nI (by omega) (by omega), if_neg (by omega)]) c14
                  refine wp_aload_n dX10_does_149 rfl 0 rfl ?_
                  refine wp_getO (q := 132) fX10_34 hR rfl (rfl) (by decide) (by decide) rfl dX10_does_150 ?_
                  refine wp_bipush (v := 14) dX10_does_153 (by decide) ?_
                  refine wp_iald 14 (rfl) (rfl) (by decide) ((show 14 < 15 from by omega)) dX10_does_155 ?_
                  refine wp_top (x' := T.2.2 6) (hT 14 (by decide)) ?_
                  refine wp_if_eq 170 dX10_does_156 (by decide) (fun c15 => ?_) (fun c15 => ?_)
                  · refine wp_iconst (v := 0) dX10_does_170 (by decide) ?_
                    exact wp_iret hC rfl rfl dX10_does_171 (pI_ok (by rw [show (doP B T (x / 10) (x % 10)).2 = 0 from by unfold doP; rw [hq, if_neg (by decide), if_pos hh, if_neg (by decide), if_neg (by decide), if_pos ht, if_pos c15]]; exact ⟨rfl, fun h => absurd rfl h, frG.refl 30 30 132 F A, rfl, rfl⟩))
                  · refine wp_aload_n dX10_does_159 rfl 0 rfl ?_
                    refine wp_iload_n dX10_does_160 rfl 2 rfl ?_
                    refine wp_iconst (v := 1) dX10_does_161 (by decide) ?_
                    refine wp_isub dX10_does_162 ?_
                    refine wp_iload_n dX10_does_163 rfl 3 rfl ?_
                    refine wp_callI (mm_siteV (av := [.int ((nI 1) - 1), .int (nI (x % 10))]) hC lX10_215 (rfl) (by decide) ⟨_, rfl, rfl⟩ rfl rfl (Nat.le_of_ble_eq_true rfl) dX10_does_164) (c_X10_throwsAt l k _ _ _ _ 0 (x % 10) T B hR hM hw hT hdT hkT ht hh) (by omega) (by decide) ?_
                    rintro _ F5 A5 _ _ ⟨rfl, hT5, hp5, rfl, rfl⟩
                    have hf5 := (frG.refl 30 30 132 F A).trans (hp5.G 30 30 132)
                    by_cases hc : canB B T 0 (x % 10) = 0
                    · rw [thrS, if_pos hc] at hT5
                      refine wp_top (x' := 0) (if_pos hc) ?_
                      refine wp_if_ne 172 dX10_does_167 (by decide) (fun c16 => ?_) (fun c16 => ?_)
                      · exact absurd (by decide) c16
                      · refine wp_iconst (v := 0) dX10_does_170 (by decide) ?_
                        exact wp_iret hC rfl rfl dX10_does_171 (pI_ok (by rw [show (doP B T (x / 10) (x % 10)).2 = 0 from by unfold doP; rw [hq, if_neg (by decide), if_pos hh, if_neg (by decide), if_neg (by decide), if_pos ht, if_neg c15, if_pos hc]]; exact ⟨rfl, fun h => absurd rfl h, hf5, rfl, rfl⟩))
                    · rw [thrS, if_neg hc] at hT5
                      refine wp_top (x' := 1) (if_neg hc) ?_
                      refine wp_if_ne 172 dX10_does_167 (by decide) (fun c17 => ?_) (fun c17 => ?_)
                      · refine wp_aload_n dX10_does_172 rfl 0 rfl ?_
                        refine wp_getO (q := 132) fX10_34 hR rfl (rfl) (by decide) (by decide) rfl dX10_does_173 ?_
                        refine wp_bipush (v := 14) dX10_does_176 (by decide) ?_
                        refine wp_dup2 dX10_does_178 rfl rfl ?_
                        refine wp_iald 14 (rfl) (rfl) (by decide) ((show 14 < 15 from by omega)) dX10_does_179 ?_
                        refine wp_top (x' := (strikeP B T 0 (x % 10)).1.2.2 6) (hT5 14 (by decide)) ?_
                        refine wp_iconst (v := 1) dX10_does_180 (by decide) ?_
                        refine wp_isub dX10_does_181 ?_
                        refine wp_iast 14 (rfl) (rfl) (by decide) ((show 14 < 15 from by omega)) dX10_does_182 ?_
                        refine wp_iconst (v := 1) dX10_does_183 (by decide) ?_
                        exact wp_iret hC rfl rfl dX10_does_184 (pI_ok (by rw [show doP B T (x / 10) (x % 10) = ((strikeP B (T.1, T.2.1, va_up T.2.2 6 (T.2.2 6 - 1)) 0 (x % 10)).1, 1) from by unfold doP; rw [hq, if_neg (by decide), if_pos hh, if_neg (by decide), if_neg (by decide), if_pos ht, if_neg c15, if_neg hc]]; exact ⟨rfl, fun _ => by rw [strike_dec]; exact isP_14 hT5, hf5.trans (frG.A (Or.inl rfl) (fun r hr => u2_ne hr)), rfl, rfl⟩))
                      · exact absurd c17 (by decide)
            · exact absurd c12 (by decide)
          · exact absurd c11 (by decide)
        · exact absurd (by decide) c10
    · replace c8 := (ix_eq (a := x) (b := 60) (rfl) (rfl) (by omega) (by omega)).mp c8
      exact absurd c8 (by omega)
  · refine wp_top (x' := nI 2) (by rw [hq]) ?_
    refine wp_istore_n [1, 2, 0] (by decide) rfl rfl rfl dX10_does_4 rfl ?_
    refine wp_iload_n dX10_does_5 rfl 1 rfl ?_
    refine wp_bipush (v := 10) dX10_does_6 (by decide) ?_
    refine wp_irem dX10_does_8 (by decide) ?_
    refine wp_top (x' := nI (x % 10)) (ix_rem (a := x) (b := 10) rfl rfl (by omega) (by decide) (by decide)) ?_
    refine wp_istore_n [1, 2, 3, 0] (by decide) rfl rfl rfl dX10_does_9 rfl ?_
    refine wp_iload_n dX10_does_10 rfl 1 rfl ?_
    refine wp_bipush (v := 60) dX10_does_11 (by decide) ?_
    refine wp_icmp_ne 55 dX10_does_13 (by decide) (fun c18 => ?_) (fun c18 => ?_)
    · replace c18 := mt (ix_eq (a := x) (b := 60) (rfl) (rfl) (by omega) (by omega)).mpr c18
      refine wp_aload_n dX10_does_55 rfl 0 rfl ?_
      refine wp_iload_n dX10_does_56 rfl 3 rfl ?_
      refine wp_callP (e := if isIn (nI (x % 10)) (nI B.1.1) = 0 then 1 else 0) (mm_siteV (av := [.int (nI (x % 10))]) hC lX10_179 (rfl) (by decide) ⟨_, rfl, rfl⟩ rfl rfl (Nat.le_of_ble_eq_true rfl) dX10_does_57) (c_X10_noHusk l (k + 2) _ _ _ _ _ B hM hw) (by omega) (by decide) ?_
      refine wp_if_ne 68 dX10_does_60 (by decide) (fun c19 => ?_) (fun c19 => ?_)
      · rw [ite01, Classical.not_not] at c19
        have hh : ¬ x % 10 < B.1.1 := fun h => absurd c19 (isIn_ok h (by omega))
        refine wp_iconst (v := 0) dX10_does_68 (by decide) ?_
        exact wp_iret hC rfl rfl dX10_does_69 (pI_ok (by rw [show (doP B T (x / 10) (x % 10)).2 = 0 from by unfold doP; rw [hq, if_neg (by decide), if_neg hh]]; exact ⟨rfl, fun h => absurd rfl h, frG.refl 30 30 132 F A, rfl, rfl⟩))
      · rw [ite01] at c19
        have hh : x % 10 < B.1.1 := by rcases Nat.lt_or_ge (x % 10) B.1.1 with h | h; exact h; exact absurd (by rw [isIn_nI (by omega) (by omega), if_neg (by omega)]) c19
        refine wp_iload_n dX10_does_63 rfl 2 rfl ?_
        refine wp_iconst (v := 5) dX10_does_64 (by decide) ?_
        refine wp_icmp_le 70 dX10_does_65 (by decide) (fun c20 => ?_) (fun c20 => ?_)
        · refine wp_aload_n dX10_does_70 rfl 0 rfl ?_
          refine wp_getO (q := 132) fX10_34 hR rfl (rfl) (by decide) (by decide) rfl dX10_does_71 ?_
          refine wp_bipush (v := 12) dX10_does_74 (by decide) ?_
          refine wp_iald 12 (rfl) (rfl) (by decide) ((show 12 < 15 from by omega)) dX10_does_76 ?_
          refine wp_top (x' := T.2.2 2) (hT 12 (by decide)) ?_
          refine wp_iload_n dX10_does_77 rfl 3 rfl ?_
          refine wp_callP (e := bt (T.2.2 2) (nI (x % 10))) (mm_siteS (av := [.int (T.2.2 2), .int (nI (x % 10))]) hC lX10_144 rfl rfl (Nat.le_of_ble_eq_true rfl) dX10_does_78) (c_X10_has l (k + 3) _ _ _ _ (T.2.2 2) (nI (x % 10))) (by omega) (by decide) ?_
          refine wp_istore [1, 2, 3, 4, 0] (by decide) rfl rfl rfl dX10_does_81 ?_
          refine wp_iload_n dX10_does_83 rfl 2 rfl ?_
          refine wp_if_ne 102 dX10_does_84 (by decide) (fun c21 => ?_) (fun c21 => ?_)
          · refine wp_iload_n dX10_does_102 rfl 2 rfl ?_
            refine wp_iconst (v := 5) dX10_does_103 (by decide) ?_
            refine wp_icmp_ne 127 dX10_does_104 (by decide) (fun c22 => ?_) (fun c22 => ?_)
            · refine wp_iload_n dX10_does_127 rfl 2 rfl ?_
              refine wp_i2l dX10_does_128 ?_
              refine wp_lconst (v := 1) dX10_does_129 rfl ?_
              refine wp_topL (x' := (1 : Int32).toInt64) (by decide) ?_
              refine wp_ldc2 (v := 4) k_1049 dX10_does_130 ?_
              refine wp_topL (x' := (4 : Int32).toInt64) (by decide) ?_
              refine wp_callP (e := inP (nI 2) 1 4) (mm_siteS (av := [.long ((nI 2).toInt64), .long ((1 : Int32).toInt64), .long ((4 : Int32).toInt64)]) hC lX10_78 rfl rfl (Nat.le_of_ble_eq_true rfl) dX10_does_133) (c_X10_in l (k + 3) _ _ _ _ (nI 2) 1 4) (by omega) (by decide) ?_
              refine wp_top (x' := 1) (by decide) ?_
              refine wp_if_eq 170 dX10_does_136 (by decide) (fun c23 => ?_) (fun c23 => ?_)
              · exact absurd c23 (by decide)
              · refine wp_aload_n dX10_does_139 rfl 0 rfl ?_
                refine wp_iload_n dX10_does_140 rfl 2 rfl ?_
                refine wp_iconst (v := 1) dX10_does_141 (by decide) ?_
                refine wp_isub dX10_does_142 ?_
                refine wp_callP (e := if isIn (nI 1) (nI B.1.2.1) = 0 then 1 else 0) (mm_siteV (av := [.int ((nI 2) - 1)]) hC lX10_183 (rfl) (by decide) ⟨_, rfl, rfl⟩ rfl rfl (Nat.le_of_ble_eq_true rfl) dX10_does_143) (c_X10_noThrower l (k + 2) _ _ _ _ _ B hM hw) (by omega) (by decide) ?_
                refine wp_if_ne 170 dX10_does_146 (by decide) (fun c24 => ?_) (fun c24 => ?_)
                · rw [ite01, Classical.not_not] at c24
                  have ht : ¬ 1 < B.1.2.1 := fun h => absurd c24 (isIn_ok h (by omega))
                  refine wp_iconst (v := 0) dX10_does_170 (by decide) ?_
                  exact wp_iret hC rfl rfl dX10_does_171 (pI_ok (by rw [show (doP B T (x / 10) (x % 10)).2 = 0 from by unfold doP; rw [hq, if_neg (by decide), if_pos hh, if_neg (by decide), if_neg (by decide), if_neg ht]]; exact ⟨rfl, fun h => absurd rfl h, frG.refl 30 30 132 F A, rfl, rfl⟩))
                · rw [ite01] at c24
                  have ht : 1 < B.1.2.1 := by rcases Nat.lt_or_ge 1 B.1.2.1 with h | h; exact h; exact absurd (by rw [isIn_nI (by omega) (by omega), if_neg (by omega)]) c24
                  refine wp_aload_n dX10_does_149 rfl 0 rfl ?_
                  refine wp_getO (q := 132) fX10_34 hR rfl (rfl) (by decide) (by decide) rfl dX10_does_150 ?_
                  refine wp_bipush (v := 14) dX10_does_153 (by decide) ?_
                  refine wp_iald 14 (rfl) (rfl) (by decide) ((show 14 < 15 from by omega)) dX10_does_155 ?_
                  refine wp_top (x' := T.2.2 6) (hT 14 (by decide)) ?_
                  refine wp_if_eq 170 dX10_does_156 (by decide) (fun c25 => ?_) (fun c25 => ?_)
                  · refine wp_iconst (v := 0) dX10_does_170 (by decide) ?_
                    exact wp_iret hC rfl rfl dX10_does_171 (pI_ok (by rw [show (doP B T (x / 10) (x % 10)).2 = 0 from by unfold doP; rw [hq, if_neg (by decide), if_pos hh, if_neg (by decide), if_neg (by decide), if_pos ht, if_pos c25]]; exact ⟨rfl, fun h => absurd rfl h, frG.refl 30 30 132 F A, rfl, rfl⟩))
                  · refine wp_aload_n dX10_does_159 rfl 0 rfl ?_
                    refine wp_iload_n dX10_does_160 rfl 2 rfl ?_
                    refine wp_iconst (v := 1) dX10_does_161 (by decide) ?_
                    refine wp_isub dX10_does_162 ?_
                    refine wp_iload_n dX10_does_163 rfl 3 rfl ?_
                    refine wp_callI (mm_siteV (av := [.int ((nI 2) - 1), .int (nI (x % 10))]) hC lX10_215 (rfl) (by decide) ⟨_, rfl, rfl⟩ rfl rfl (Nat.le_of_ble_eq_true rfl) dX10_does_164) (c_X10_throwsAt l k _ _ _ _ 1 (x % 10) T B hR hM hw hT hdT hkT ht hh) (by omega) (by decide) ?_
                    rintro _ F5 A5 _ _ ⟨rfl, hT5, hp5, rfl, rfl⟩
                    have hf5 := (frG.refl 30 30 132 F A).trans (hp5.G 30 30 132)
                    by_cases hc : canB B T 1 (x % 10) = 0
                    · rw [thrS, if_pos hc] at hT5
                      refine wp_top (x' := 0) (if_pos hc) ?_
                      refine wp_if_ne 172 dX10_does_167 (by decide) (fun c26 => ?_) (fun c26 => ?_)
                      · exact absurd (by decide) c26
                      · refine wp_iconst (v := 0) dX10_does_170 (by decide) ?_
                        exact wp_iret hC rfl rfl dX10_does_171 (pI_ok (by rw [show (doP B T (x / 10) (x % 10)).2 = 0 from by unfold doP; rw [hq, if_neg (by decide), if_pos hh, if_neg (by decide), if_neg (by decide), if_pos ht, if_neg c25, if_pos hc]]; exact ⟨rfl, fun h => absurd rfl h, hf5, rfl, rfl⟩))
                    · rw [thrS, if_neg hc] at hT5
                      refine wp_top (x' := 1) (if_neg hc) ?_
                      refine wp_if_ne 172 dX10_does_167 (by decide) (fun c27 => ?_) (fun c27 => ?_)
                      · refine wp_aload_n dX10_does_172 rfl 0 rfl ?_
                        refine wp_getO (q := 132) fX10_34 hR rfl (rfl) (by decide) (by decide) rfl dX10_does_173 ?_
                        refine wp_bipush (v := 14) dX10_does_176 (by decide) ?_
                        refine wp_dup2 dX10_does_178 rfl rfl ?_
                        refine wp_iald 14 (rfl) (rfl) (by decide) ((show 14 < 15 from by omega)) dX10_does_179 ?_
                        refine wp_top (x' := (strikeP B T 1 (x % 10)).1.2.2 6) (hT5 14 (by decide)) ?_
                        refine wp_iconst (v := 1) dX10_does_180 (by decide) ?_
                        refine wp_isub dX10_does_181 ?_
                        refine wp_iast 14 (rfl) (rfl) (by decide) ((show 14 < 15 from by omega)) dX10_does_182 ?_
                        refine wp_iconst (v := 1) dX10_does_183 (by decide) ?_
                        exact wp_iret hC rfl rfl dX10_does_184 (pI_ok (by rw [show doP B T (x / 10) (x % 10) = ((strikeP B (T.1, T.2.1, va_up T.2.2 6 (T.2.2 6 - 1)) 1 (x % 10)).1, 1) from by unfold doP; rw [hq, if_neg (by decide), if_pos hh, if_neg (by decide), if_neg (by decide), if_pos ht, if_neg c25, if_neg hc]]; exact ⟨rfl, fun _ => by rw [strike_dec]; exact isP_14 hT5, hf5.trans (frG.A (Or.inl rfl) (fun r hr => u2_ne hr)), rfl, rfl⟩))
                      · exact absurd c27 (by decide)
            · exact absurd c22 (by decide)
          · exact absurd c21 (by decide)
        · exact absurd (by decide) c20
    · replace c18 := (ix_eq (a := x) (b := 60) (rfl) (rfl) (by omega) (by omega)).mp c18
      exact absurd c18 (by omega)
  · refine wp_top (x' := nI 3) (by rw [hq]) ?_
    refine wp_istore_n [1, 2, 0] (by decide) rfl rfl rfl dX10_does_4 rfl ?_
    refine wp_iload_n dX10_does_5 rfl 1 rfl ?_
    refine wp_bipush (v := 10) dX10_does_6 (by decide) ?_
    refine wp_irem dX10_does_8 (by decide) ?_
    refine wp_top (x' := nI (x % 10)) (ix_rem (a := x) (b := 10) rfl rfl (by omega) (by decide) (by decide)) ?_
    refine wp_istore_n [1, 2, 3, 0] (by decide) rfl rfl rfl dX10_does_9 rfl ?_
    refine wp_iload_n dX10_does_10 rfl 1 rfl ?_
    refine wp_bipush (v := 60) dX10_does_11 (by decide) ?_
    refine wp_icmp_ne 55 dX10_does_13 (by decide) (fun c28 => ?_) (fun c28 => ?_)
    · replace c28 := mt (ix_eq (a := x) (b := 60) (rfl) (rfl) (by omega) (by omega)).mpr c28
      refine wp_aload_n dX10_does_55 rfl 0 rfl ?_
      refine wp_iload_n dX10_does_56 rfl 3 rfl ?_
      refine wp_callP (e := if isIn (nI (x % 10)) (nI B.1.1) = 0 then 1 else 0) (mm_siteV (av := [.int (nI (x % 10))]) hC lX10_179 (rfl) (by decide) ⟨_, rfl, rfl⟩ rfl rfl (Nat.le_of_ble_eq_true rfl) dX10_does_57) (c_X10_noHusk l (k + 2) _ _ _ _ _ B hM hw) (by omega) (by decide) ?_
      refine wp_if_ne 68 dX10_does_60 (by decide) (fun c29 => ?_) (fun c29 => ?_)
      · rw [ite01, Classical.not_not] at c29
        have hh : ¬ x % 10 < B.1.1 := fun h => absurd c29 (isIn_ok h (by omega))
        refine wp_iconst (v := 0) dX10_does_68 (by decide) ?_
        exact wp_iret hC rfl rfl dX10_does_69 (pI_ok (by rw [show (doP B T (x / 10) (x % 10)).2 = 0 from by unfold doP; rw [hq, if_neg (by decide), if_neg hh]]; exact ⟨rfl, fun h => absurd rfl h, frG.refl 30 30 132 F A, rfl, rfl⟩))
      · rw [ite01] at c29
        have hh : x % 10 < B.1.1 := by rcases Nat.lt_or_ge (x % 10) B.1.1 with h | h; exact h; exact absurd (by rw [isIn_nI (by omega) (by omega), if_neg (by omega)]) c29
        refine wp_iload_n dX10_does_63 rfl 2 rfl ?_
        refine wp_iconst (v := 5) dX10_does_64 (by decide) ?_
        refine wp_icmp_le 70 dX10_does_65 (by decide) (fun c30 => ?_) (fun c30 => ?_)
        · refine wp_aload_n dX10_does_70 rfl 0 rfl ?_
          refine wp_getO (q := 132) fX10_34 hR rfl (rfl) (by decide) (by decide) rfl dX10_does_71 ?_
          refine wp_bipush (v := 12) dX10_does_74 (by decide) ?_
          refine wp_iald 12 (rfl) (rfl) (by decide) ((show 12 < 15 from by omega)) dX10_does_76 ?_
          refine wp_top (x' := T.2.2 2) (hT 12 (by decide)) ?_
          refine wp_iload_n dX10_does_77 rfl 3 rfl ?_
          refine wp_callP (e := bt (T.2.2 2) (nI (x % 10))) (mm_siteS (av := [.int (T.2.2 2), .int (nI (x % 10))]) hC lX10_144 rfl rfl (Nat.le_of_ble_eq_true rfl) dX10_does_78) (c_X10_has l (k + 3) _ _ _ _ (T.2.2 2) (nI (x % 10))) (by omega) (by decide) ?_
          refine wp_istore [1, 2, 3, 4, 0] (by decide) rfl rfl rfl dX10_does_81 ?_
          refine wp_iload_n dX10_does_83 rfl 2 rfl ?_
          refine wp_if_ne 102 dX10_does_84 (by decide) (fun c31 => ?_) (fun c31 => ?_)
          · refine wp_iload_n dX10_does_102 rfl 2 rfl ?_
            refine wp_iconst (v := 5) dX10_does_103 (by decide) ?_
            refine wp_icmp_ne 127 dX10_does_104 (by decide) (fun c32 => ?_) (fun c32 => ?_)
            · refine wp_iload_n dX10_does_127 rfl 2 rfl ?_
              refine wp_i2l dX10_does_128 ?_
              refine wp_lconst (v := 1) dX10_does_129 rfl ?_
              refine wp_topL (x' := (1 : Int32).toInt64) (by decide) ?_
              refine wp_ldc2 (v := 4) k_1049 dX10_does_130 ?_
              refine wp_topL (x' := (4 : Int32).toInt64) (by decide) ?_
              refine wp_callP (e := inP (nI 3) 1 4) (mm_siteS (av := [.long ((nI 3).toInt64), .long ((1 : Int32).toInt64), .long ((4 : Int32).toInt64)]) hC lX10_78 rfl rfl (Nat.le_of_ble_eq_true rfl) dX10_does_133) (c_X10_in l (k + 3) _ _ _ _ (nI 3) 1 4) (by omega) (by decide) ?_
              refine wp_top (x' := 1) (by decide) ?_
              refine wp_if_eq 170 dX10_does_136 (by decide) (fun c33 => ?_) (fun c33 => ?_)
              · exact absurd c33 (by decide)
              · refine wp_aload_n dX10_does_139 rfl 0 rfl ?_
                refine wp_iload_n dX10_does_140 rfl 2 rfl ?_
                refine wp_iconst (v := 1) dX10_does_141 (by decide) ?_
                refine wp_isub dX10_does_142 ?_
                refine wp_callP (e := if isIn (nI 2) (nI B.1.2.1) = 0 then 1 else 0) (mm_siteV (av := [.int ((nI 3) - 1)]) hC lX10_183 (rfl) (by decide) ⟨_, rfl, rfl⟩ rfl rfl (Nat.le_of_ble_eq_true rfl) dX10_does_143) (c_X10_noThrower l (k + 2) _ _ _ _ _ B hM hw) (by omega) (by decide) ?_
                refine wp_if_ne 170 dX10_does_146 (by decide) (fun c34 => ?_) (fun c34 => ?_)
                · rw [ite01, Classical.not_not] at c34
                  have ht : ¬ 2 < B.1.2.1 := fun h => absurd c34 (isIn_ok h (by omega))
                  refine wp_iconst (v := 0) dX10_does_170 (by decide) ?_
                  exact wp_iret hC rfl rfl dX10_does_171 (pI_ok (by rw [show (doP B T (x / 10) (x % 10)).2 = 0 from by unfold doP; rw [hq, if_neg (by decide), if_pos hh, if_neg (by decide), if_neg (by decide), if_neg ht]]; exact ⟨rfl, fun h => absurd rfl h, frG.refl 30 30 132 F A, rfl, rfl⟩))
                · rw [ite01] at c34
                  have ht : 2 < B.1.2.1 := by rcases Nat.lt_or_ge 2 B.1.2.1 with h | h; exact h; exact absurd (by rw [isIn_nI (by omega) (by omega), if_neg (by omega)]) c34
                  refine wp_aload_n dX10_does_149 rfl 0 rfl ?_
                  refine wp_getO (q := 132) fX10_34 hR rfl (rfl) (by decide) (by decide) rfl dX10_does_150 ?_
                  refine wp_bipush (v := 14) dX10_does_153 (by decide) ?_
                  refine wp_iald 14 (rfl) (rfl) (by decide) ((show 14 < 15 from by omega)) dX10_does_155 ?_
                  refine wp_top (x' := T.2.2 6) (hT 14 (by decide)) ?_
                  refine wp_if_eq 170 dX10_does_156 (by decide) (fun c35 => ?_) (fun c35 => ?_)
                  · refine wp_iconst (v := 0) dX10_does_170 (by decide) ?_
                    exact wp_iret hC rfl rfl dX10_does_171 (pI_ok (by rw [show (doP B T (x / 10) (x % 10)).2 = 0 from by unfold doP; rw [hq, if_neg (by decide), if_pos hh, if_neg (by decide), if_neg (by decide), if_pos ht, if_pos c35]]; exact ⟨rfl, fun h => absurd rfl h, frG.refl 30 30 132 F A, rfl, rfl⟩))
                  · refine wp_aload_n dX10_does_159 rfl 0 rfl ?_
                    refine wp_iload_n dX10_does_160 rfl 2 rfl ?_
                    refine wp_iconst (v := 1) dX10_does_161 (by decide) ?_
                    refine wp_isub dX10_does_162 ?_
                    refine wp_iload_n dX10_does_163 rfl 3 rfl ?_
                    refine wp_callI (mm_siteV (av := [.int ((nI 3) - 1), .int (nI (x % 10))]) hC lX10_215 (rfl) (by decide) ⟨_, rfl, rfl⟩ rfl rfl (Nat.le_of_ble_eq_true rfl) dX10_does_164) (c_X10_throwsAt l k _ _ _ _ 2 (x % 10) T B hR hM hw hT hdT hkT ht hh) (by omega) (by decide) ?_
                    rintro _ F5 A5 _ _ ⟨rfl, hT5, hp5, rfl, rfl⟩
                    have hf5 := (frG.refl 30 30 132 F A).trans (hp5.G 30 30 132)
                    by_cases hc : canB B T 2 (x % 10) = 0
                    · rw [thrS, if_pos hc] at hT5
                      refine wp_top (x' := 0) (if_pos hc) ?_
                      refine wp_if_ne 172 dX10_does_167 (by decide) (fun c36 => ?_) (fun c36 => ?_)
                      · exact absurd (by decide) c36
                      · refine wp_iconst (v := 0) dX10_does_170 (by decide) ?_
                        exact wp_iret hC rfl rfl dX10_does_171 (pI_ok (by rw [show (doP B T (x / 10) (x % 10)).2 = 0 from by unfold doP; rw [hq, if_neg (by decide), if_pos hh, if_neg (by decide), if_neg (by decide), if_pos ht, if_neg c35, if_pos hc]]; exact ⟨rfl, fun h => absurd rfl h, hf5, rfl, rfl⟩))
                    · rw [thrS, if_neg hc] at hT5
                      refine wp_top (x' := 1) (if_neg hc) ?_
                      refine wp_if_ne 172 dX10_does_167 (by decide) (fun c37 => ?_) (fun c37 => ?_)
                      · refine wp_aload_n dX10_does_172 rfl 0 rfl ?_
                        refine wp_getO (q := 132) fX10_34 hR rfl (rfl) (by decide) (by decide) rfl dX10_does_173 ?_
                        refine wp_bipush (v := 14) dX10_does_176 (by decide) ?_
                        refine wp_dup2 dX10_does_178 rfl rfl ?_
                        refine wp_iald 14 (rfl) (rfl) (by decide) ((show 14 < 15 from by omega)) dX10_does_179 ?_
                        refine wp_top (x' := (strikeP B T 2 (x % 10)).1.2.2 6) (hT5 14 (by decide)) ?_
                        refine wp_iconst (v := 1) dX10_does_180 (by decide) ?_
                        refine wp_isub dX10_does_181 ?_
                        refine wp_iast 14 (rfl) (rfl) (by decide) ((show 14 < 15 from by omega)) dX10_does_182 ?_
                        refine wp_iconst (v := 1) dX10_does_183 (by decide) ?_
                        exact wp_iret hC rfl rfl dX10_does_184 (pI_ok (by rw [show doP B T (x / 10) (x % 10) = ((strikeP B (T.1, T.2.1, va_up T.2.2 6 (T.2.2 6 - 1)) 2 (x % 10)).1, 1) from by unfold doP; rw [hq, if_neg (by decide), if_pos hh, if_neg (by decide), if_neg (by decide), if_pos ht, if_neg c35, if_neg hc]]; exact ⟨rfl, fun _ => by rw [strike_dec]; exact isP_14 hT5, hf5.trans (frG.A (Or.inl rfl) (fun r hr => u2_ne hr)), rfl, rfl⟩))
                      · exact absurd c37 (by decide)
            · exact absurd c32 (by decide)
          · exact absurd c31 (by decide)
        · exact absurd (by decide) c30
    · replace c28 := (ix_eq (a := x) (b := 60) (rfl) (rfl) (by omega) (by omega)).mp c28
      exact absurd c28 (by omega)
  · refine wp_top (x' := nI 4) (by rw [hq]) ?_
    refine wp_istore_n [1, 2, 0] (by decide) rfl rfl rfl dX10_does_4 rfl ?_
    refine wp_iload_n dX10_does_5 rfl 1 rfl ?_
    refine wp_bipush (v := 10) dX10_does_6 (by decide) ?_
    refine wp_irem dX10_does_8 (by decide) ?_
    refine wp_top (x' := nI (x % 10)) (ix_rem (a := x) (b := 10) rfl rfl (by omega) (by decide) (by decide)) ?_
    refine wp_istore_n [1, 2, 3, 0] (by decide) rfl rfl rfl dX10_does_9 rfl ?_
    refine wp_iload_n dX10_does_10 rfl 1 rfl ?_
    refine wp_bipush (v := 60) dX10_does_11 (by decide) ?_
    refine wp_icmp_ne 55 dX10_does_13 (by decide) (fun c38 => ?_) (fun c38 => ?_)
    · replace c38 := mt (ix_eq (a := x) (b := 60) (rfl) (rfl) (by omega) (by omega)).mpr c38
      refine wp_aload_n dX10_does_55 rfl 0 rfl ?_
      refine wp_iload_n dX10_does_56 rfl 3 rfl ?_
      refine wp_callP (e := if isIn (nI (x % 10)) (nI B.1.1) = 0 then 1 else 0) (mm_siteV (av := [.int (nI (x % 10))]) hC lX10_179 (rfl) (by decide) ⟨_, rfl, rfl⟩ rfl rfl (Nat.le_of_ble_eq_true rfl) dX10_does_57) (c_X10_noHusk l (k + 2) _ _ _ _ _ B hM hw) (by omega) (by decide) ?_
      refine wp_if_ne 68 dX10_does_60 (by decide) (fun c39 => ?_) (fun c39 => ?_)
      · rw [ite01, Classical.not_not] at c39
        have hh : ¬ x % 10 < B.1.1 := fun h => absurd c39 (isIn_ok h (by omega))
        refine wp_iconst (v := 0) dX10_does_68 (by decide) ?_
        exact wp_iret hC rfl rfl dX10_does_69 (pI_ok (by rw [show (doP B T (x / 10) (x % 10)).2 = 0 from by unfold doP; rw [hq, if_neg (by decide), if_neg hh]]; exact ⟨rfl, fun h => absurd rfl h, frG.refl 30 30 132 F A, rfl, rfl⟩))
      · rw [ite01] at c39
        have hh : x % 10 < B.1.1 := by rcases Nat.lt_or_ge (x % 10) B.1.1 with h | h; exact h; exact absurd (by rw [isIn_nI (by omega) (by omega), if_neg (by omega)]) c39
        refine wp_iload_n dX10_does_63 rfl 2 rfl ?_
        refine wp_iconst (v := 5) dX10_does_64 (by decide) ?_
        refine wp_icmp_le 70 dX10_does_65 (by decide) (fun c40 => ?_) (fun c40 => ?_)
        · refine wp_aload_n dX10_does_70 rfl 0 rfl ?_
          refine wp_getO (q := 132) fX10_34 hR rfl (rfl) (by decide) (by decide) rfl dX10_does_71 ?_
          refine wp_bipush (v := 12) dX10_does_74 (by decide) ?_
          refine wp_iald 12 (rfl) (rfl) (by decide) ((show 12 < 15 from by omega)) dX10_does_76 ?_
          refine wp_top (x' := T.2.2 2) (hT 12 (by decide)) ?_
          refine wp_iload_n dX10_does_77 rfl 3 rfl ?_
          refine wp_callP (e := bt (T.2.2 2) (nI (x % 10))) (mm_siteS (av := [.int (T.2.2 2), .int (nI (x % 10))]) hC lX10_144 rfl rfl (Nat.le_of_ble_eq_true rfl) dX10_does_78) (c_X10_has l (k + 3) _ _ _ _ (T.2.2 2) (nI (x % 10))) (by omega) (by decide) ?_
          refine wp_istore [1, 2, 3, 4, 0] (by decide) rfl rfl rfl dX10_does_81 ?_
          refine wp_iload_n dX10_does_83 rfl 2 rfl ?_
          refine wp_if_ne 102 dX10_does_84 (by decide) (fun c41 => ?_) (fun c41 => ?_)
          · refine wp_iload_n dX10_does_102 rfl 2 rfl ?_
            refine wp_iconst (v := 5) dX10_does_103 (by decide) ?_
            refine wp_icmp_ne 127 dX10_does_104 (by decide) (fun c42 => ?_) (fun c42 => ?_)
            · refine wp_iload_n dX10_does_127 rfl 2 rfl ?_
              refine wp_i2l dX10_does_128 ?_
              refine wp_lconst (v := 1) dX10_does_129 rfl ?_
              refine wp_topL (x' := (1 : Int32).toInt64) (by decide) ?_
              refine wp_ldc2 (v := 4) k_1049 dX10_does_130 ?_
              refine wp_topL (x' := (4 : Int32).toInt64) (by decide) ?_
              refine wp_callP (e := inP (nI 4) 1 4) (mm_siteS (av := [.long ((nI 4).toInt64), .long ((1 : Int32).toInt64), .long ((4 : Int32).toInt64)]) hC lX10_78 rfl rfl (Nat.le_of_ble_eq_true rfl) dX10_does_133) (c_X10_in l (k + 3) _ _ _ _ (nI 4) 1 4) (by omega) (by decide) ?_
              refine wp_top (x' := 1) (by decide) ?_
              refine wp_if_eq 170 dX10_does_136 (by decide) (fun c43 => ?_) (fun c43 => ?_)
              · exact absurd c43 (by decide)
              · refine wp_aload_n dX10_does_139 rfl 0 rfl ?_
                refine wp_iload_n dX10_does_140 rfl 2 rfl ?_
                refine wp_iconst (v := 1) dX10_does_141 (by decide) ?_
                refine wp_isub dX10_does_142 ?_
                refine wp_callP (e := if isIn (nI 3) (nI B.1.2.1) = 0 then 1 else 0) (mm_siteV (av := [.int ((nI 4) - 1)]) hC lX10_183 (rfl) (by decide) ⟨_, rfl, rfl⟩ rfl rfl (Nat.le_of_ble_eq_true rfl) dX10_does_143) (c_X10_noThrower l (k + 2) _ _ _ _ _ B hM hw) (by omega) (by decide) ?_
                refine wp_if_ne 170 dX10_does_146 (by decide) (fun c44 => ?_) (fun c44 => ?_)
                · rw [ite01, Classical.not_not] at c44
                  have ht : ¬ 3 < B.1.2.1 := fun h => absurd c44 (isIn_ok h (by omega))
                  refine wp_iconst (v := 0) dX10_does_170 (by decide) ?_
                  exact wp_iret hC rfl rfl dX10_does_171 (pI_ok (by rw [show (doP B T (x / 10) (x % 10)).2 = 0 from by unfold doP; rw [hq, if_neg (by decide), if_pos hh, if_neg (by decide), if_neg (by decide), if_neg ht]]; exact ⟨rfl, fun h => absurd rfl h, frG.refl 30 30 132 F A, rfl, rfl⟩))
                · rw [ite01] at c44
                  have ht : 3 < B.1.2.1 := by rcases Nat.lt_or_ge 3 B.1.2.1 with h | h; exact h; exact absurd (by rw [isIn_nI (by omega) (by omega), if_neg (by omega)]) c44
                  refine wp_aload_n dX10_does_149 rfl 0 rfl ?_
                  refine wp_getO (q := 132) fX10_34 hR rfl (rfl) (by decide) (by decide) rfl dX10_does_150 ?_
                  refine wp_bipush (v := 14) dX10_does_153 (by decide) ?_
                  refine wp_iald 14 (rfl) (rfl) (by decide) ((show 14 < 15 from by omega)) dX10_does_155 ?_
                  refine wp_top (x' := T.2.2 6) (hT 14 (by decide)) ?_
                  refine wp_if_eq 170 dX10_does_156 (by decide) (fun c45 => ?_) (fun c45 => ?_)
                  · refine wp_iconst (v := 0) dX10_does_170 (by decide) ?_
                    exact wp_iret hC rfl rfl dX10_does_171 (pI_ok (by rw [show (doP B T (x / 10) (x % 10)).2 = 0 from by unfold doP; rw [hq, if_neg (by decide), if_pos hh, if_neg (by decide), if_neg (by decide), if_pos ht, if_pos c45]]; exact ⟨rfl, fun h => absurd rfl h, frG.refl 30 30 132 F A, rfl, rfl⟩))
                  · refine wp_aload_n dX10_does_159 rfl 0 rfl ?_
                    refine wp_iload_n dX10_does_160 rfl 2 rfl ?_
                    refine wp_iconst (v := 1) dX10_does_161 (by decide) ?_
                    refine wp_isub dX10_does_162 ?_
                    refine wp_iload_n dX10_does_163 rfl 3 rfl ?_
                    refine wp_callI (mm_siteV (av := [.int ((nI 4) - 1), .int (nI (x % 10))]) hC lX10_215 (rfl) (by decide) ⟨_, rfl, rfl⟩ rfl rfl (Nat.le_of_ble_eq_true rfl) dX10_does_164) (c_X10_throwsAt l k _ _ _ _ 3 (x % 10) T B hR hM hw hT hdT hkT ht hh) (by omega) (by decide) ?_
                    rintro _ F5 A5 _ _ ⟨rfl, hT5, hp5, rfl, rfl⟩
                    have hf5 := (frG.refl 30 30 132 F A).trans (hp5.G 30 30 132)
                    by_cases hc : canB B T 3 (x % 10) = 0
                    · rw [thrS, if_pos hc] at hT5
                      refine wp_top (x' := 0) (if_pos hc) ?_
                      refine wp_if_ne 172 dX10_does_167 (by decide) (fun c46 => ?_) (fun c46 => ?_)
                      · exact absurd (by decide) c46
                      · refine wp_iconst (v := 0) dX10_does_170 (by decide) ?_
                        exact wp_iret hC rfl rfl dX10_does_171 (pI_ok (by rw [show (doP B T (x / 10) (x % 10)).2 = 0 from by unfold doP; rw [hq, if_neg (by decide), if_pos hh, if_neg (by decide), if_neg (by decide), if_pos ht, if_neg c45, if_pos hc]]; exact ⟨rfl, fun h => absurd rfl h, hf5, rfl, rfl⟩))
                    · rw [thrS, if_neg hc] at hT5
                      refine wp_top (x' := 1) (if_neg hc) ?_
                      refine wp_if_ne 172 dX10_does_167 (by decide) (fun c47 => ?_) (fun c47 => ?_)
                      · refine wp_aload_n dX10_does_172 rfl 0 rfl ?_
                        refine wp_getO (q := 132) fX10_34 hR rfl (rfl) (by decide) (by decide) rfl dX10_does_173 ?_
                        refine wp_bipush (v := 14) dX10_does_176 (by decide) ?_
                        refine wp_dup2 dX10_does_178 rfl rfl ?_
                        refine wp_iald 14 (rfl) (rfl) (by decide) ((show 14 < 15 from by omega)) dX10_does_179 ?_
                        refine wp_top (x' := (strikeP B T 3 (x % 10)).1.2.2 6) (hT5 14 (by decide)) ?_
                        refine wp_iconst (v := 1) dX10_does_180 (by decide) ?_
                        refine wp_isub dX10_does_181 ?_
                        refine wp_iast 14 (rfl) (rfl) (by decide) ((show 14 < 15 from by omega)) dX10_does_182 ?_
                        refine wp_iconst (v := 1) dX10_does_183 (by decide) ?_
                        exact wp_iret hC rfl rfl dX10_does_184 (pI_ok (by rw [show doP B T (x / 10) (x % 10) = ((strikeP B (T.1, T.2.1, va_up T.2.2 6 (T.2.2 6 - 1)) 3 (x % 10)).1, 1) from by unfold doP; rw [hq, if_neg (by decide), if_pos hh, if_neg (by decide), if_neg (by decide), if_pos ht, if_neg c45, if_neg hc]]; exact ⟨rfl, fun _ => by rw [strike_dec]; exact isP_14 hT5, hf5.trans (frG.A (Or.inl rfl) (fun r hr => u2_ne hr)), rfl, rfl⟩))
                      · exact absurd c47 (by decide)
            · exact absurd c42 (by decide)
          · exact absurd c41 (by decide)
        · exact absurd (by decide) c40
    · replace c38 := (ix_eq (a := x) (b := 60) (rfl) (rfl) (by omega) (by omega)).mp c38
      exact absurd c38 (by omega)
  · refine wp_top (x' := nI 5) (by rw [hq]) ?_
    refine wp_istore_n [1, 2, 0] (by decide) rfl rfl rfl dX10_does_4 rfl ?_
    refine wp_iload_n dX10_does_5 rfl 1 rfl ?_
    refine wp_bipush (v := 10) dX10_does_6 (by decide) ?_
    refine wp_irem dX10_does_8 (by decide) ?_
    refine wp_top (x' := nI (x % 10)) (ix_rem (a := x) (b := 10) rfl rfl (by omega) (by decide) (by decide)) ?_
    refine wp_istore_n [1, 2, 3, 0] (by decide) rfl rfl rfl dX10_does_9 rfl ?_
    refine wp_iload_n dX10_does_10 rfl 1 rfl ?_
    refine wp_bipush (v := 60) dX10_does_11 (by decide) ?_
    refine wp_icmp_ne 55 dX10_does_13 (by decide) (fun c48 => ?_) (fun c48 => ?_)
    · replace c48 := mt (ix_eq (a := x) (b := 60) (rfl) (rfl) (by omega) (by omega)).mpr c48
      refine wp_aload_n dX10_does_55 rfl 0 rfl ?_
      refine wp_iload_n dX10_does_56 rfl 3 rfl ?_
      refine wp_callP (e := if isIn (nI (x % 10)) (nI B.1.1) = 0 then 1 else 0) (mm_siteV (av := [.int (nI (x % 10))]) hC lX10_179 (rfl) (by decide) ⟨_, rfl, rfl⟩ rfl rfl (Nat.le_of_ble_eq_true rfl) dX10_does_57) (c_X10_noHusk l (k + 2) _ _ _ _ _ B hM hw) (by omega) (by decide) ?_
      refine wp_if_ne 68 dX10_does_60 (by decide) (fun c49 => ?_) (fun c49 => ?_)
      · rw [ite01, Classical.not_not] at c49
        have hh : ¬ x % 10 < B.1.1 := fun h => absurd c49 (isIn_ok h (by omega))
        refine wp_iconst (v := 0) dX10_does_68 (by decide) ?_
        exact wp_iret hC rfl rfl dX10_does_69 (pI_ok (by rw [show (doP B T (x / 10) (x % 10)).2 = 0 from by unfold doP; rw [hq, if_neg (by decide), if_neg hh]]; exact ⟨rfl, fun h => absurd rfl h, frG.refl 30 30 132 F A, rfl, rfl⟩))
      · rw [ite01] at c49
        have hh : x % 10 < B.1.1 := by rcases Nat.lt_or_ge (x % 10) B.1.1 with h | h; exact h; exact absurd (by rw [isIn_nI (by omega) (by omega), if_neg (by omega)]) c49
        refine wp_iload_n dX10_does_63 rfl 2 rfl ?_
        refine wp_iconst (v := 5) dX10_does_64 (by decide) ?_
        refine wp_icmp_le 70 dX10_does_65 (by decide) (fun c50 => ?_) (fun c50 => ?_)
        · refine wp_aload_n dX10_does_70 rfl 0 rfl ?_
          refine wp_getO (q := 132) fX10_34 hR rfl (rfl) (by decide) (by decide) rfl dX10_does_71 ?_
          refine wp_bipush (v := 12) dX10_does_74 (by decide) ?_
          refine wp_iald 12 (rfl) (rfl) (by decide) ((show 12 < 15 from by omega)) dX10_does_76 ?_
          refine wp_top (x' := T.2.2 2) (hT 12 (by decide)) ?_
          refine wp_iload_n dX10_does_77 rfl 3 rfl ?_
          refine wp_callP (e := bt (T.2.2 2) (nI (x % 10))) (mm_siteS (av := [.int (T.2.2 2), .int (nI (x % 10))]) hC lX10_144 rfl rfl (Nat.le_of_ble_eq_true rfl) dX10_does_78) (c_X10_has l (k + 3) _ _ _ _ (T.2.2 2) (nI (x % 10))) (by omega) (by decide) ?_
          refine wp_istore [1, 2, 3, 4, 0] (by decide) rfl rfl rfl dX10_does_81 ?_
          refine wp_iload_n dX10_does_83 rfl 2 rfl ?_
          refine wp_if_ne 102 dX10_does_84 (by decide) (fun c51 => ?_) (fun c51 => ?_)
          · refine wp_iload_n dX10_does_102 rfl 2 rfl ?_
            refine wp_iconst (v := 5) dX10_does_103 (by decide) ?_
            refine wp_icmp_ne 127 dX10_does_104 (by decide) (fun c52 => ?_) (fun c52 => ?_)
            · exact absurd (by decide) c52
            · refine wp_iload dX10_does_107 4 rfl ?_
              refine wp_if_ne 127 dX10_does_109 (by decide) (fun c53 => ?_) (fun c53 => ?_)
              · refine wp_iload_n dX10_does_127 rfl 2 rfl ?_
                refine wp_i2l dX10_does_128 ?_
                refine wp_lconst (v := 1) dX10_does_129 rfl ?_
                refine wp_topL (x' := (1 : Int32).toInt64) (by decide) ?_
                refine wp_ldc2 (v := 4) k_1049 dX10_does_130 ?_
                refine wp_topL (x' := (4 : Int32).toInt64) (by decide) ?_
                refine wp_callP (e := inP (nI 5) 1 4) (mm_siteS (av := [.long ((nI 5).toInt64), .long ((1 : Int32).toInt64), .long ((4 : Int32).toInt64)]) hC lX10_78 rfl rfl (Nat.le_of_ble_eq_true rfl) dX10_does_133) (c_X10_in l (k + 3) _ _ _ _ (nI 5) 1 4) (by omega) (by decide) ?_
                refine wp_top (x' := 0) (by decide) ?_
                refine wp_if_eq 170 dX10_does_136 (by decide) (fun c54 => ?_) (fun c54 => ?_)
                · refine wp_iconst (v := 0) dX10_does_170 (by decide) ?_
                  exact wp_iret hC rfl rfl dX10_does_171 (pI_ok (by rw [show (doP B T (x / 10) (x % 10)).2 = 0 from by unfold doP; rw [hq, if_neg (by decide), if_pos hh, if_neg (by decide), if_pos rfl, if_neg c53]]; exact ⟨rfl, fun h => absurd rfl h, frG.refl 30 30 132 F A, rfl, rfl⟩))
                · exact absurd (by decide) c54
              · refine wp_aload_n dX10_does_112 rfl 0 rfl ?_
                refine wp_getO (q := 132) fX10_34 hR rfl (rfl) (by decide) (by decide) rfl dX10_does_113 ?_
                refine wp_bipush (v := 11) dX10_does_116 (by decide) ?_
                refine wp_dup2 dX10_does_118 rfl rfl ?_
                refine wp_iald 11 (rfl) (rfl) (by decide) ((show 11 < 15 from by omega)) dX10_does_119 ?_
                refine wp_top (x' := T.2.2 4) (hT 11 (by decide)) ?_
                refine wp_iconst (v := 1) dX10_does_120 (by decide) ?_
                refine wp_iload_n dX10_does_121 rfl 3 rfl ?_
                refine wp_ishl dX10_does_122 ?_
                refine wp_ixor dX10_does_123 ?_
                refine wp_iast 11 (rfl) (rfl) (by decide) ((show 11 < 15 from by omega)) dX10_does_124 ?_
                refine wp_iconst (v := 1) dX10_does_125 (by decide) ?_
                exact wp_iret hC rfl rfl dX10_does_126 (pI_ok (by rw [show doP B T (x / 10) (x % 10) = (nailS T (x % 10), 1) from by unfold doP; rw [hq, if_neg (by decide), if_pos hh, if_neg (by decide), if_pos rfl, if_pos c53]]; exact ⟨rfl, fun _ => by unfold nailS; rw [if_pos c53]; exact isP_11 hT, frG.A (Or.inl rfl) (fun r hr => u2_ne hr), rfl, rfl⟩))
          · exact absurd c51 (by decide)
        · exact absurd (by decide) c50
    · replace c48 := (ix_eq (a := x) (b := 60) (rfl) (rfl) (by omega) (by omega)).mp c48
      exact absurd c48 (by omega)
  · refine wp_top (x' := nI 6) (by rw [hq]) ?_
    refine wp_istore_n [1, 2, 0] (by decide) rfl rfl rfl dX10_does_4 rfl ?_
    refine wp_iload_n dX10_does_5 rfl 1 rfl ?_
    refine wp_bipush (v := 10) dX10_does_6 (by decide) ?_
    refine wp_irem dX10_does_8 (by decide) ?_
    refine wp_top (x' := nI (x % 10)) (ix_rem (a := x) (b := 10) rfl rfl (by omega) (by decide) (by decide)) ?_
    refine wp_istore_n [1, 2, 3, 0] (by decide) rfl rfl rfl dX10_does_9 rfl ?_
    refine wp_iload_n dX10_does_10 rfl 1 rfl ?_
    refine wp_bipush (v := 60) dX10_does_11 (by decide) ?_
    refine wp_icmp_ne 55 dX10_does_13 (by decide) (fun c55 => ?_) (fun c55 => ?_)
    · replace c55 := mt (ix_eq (a := x) (b := 60) (rfl) (rfl) (by omega) (by omega)).mpr c55
      refine wp_aload_n dX10_does_55 rfl 0 rfl ?_
      refine wp_iload_n dX10_does_56 rfl 3 rfl ?_
      refine wp_callP (e := if isIn (nI (x % 10)) (nI B.1.1) = 0 then 1 else 0) (mm_siteV (av := [.int (nI (x % 10))]) hC lX10_179 (rfl) (by decide) ⟨_, rfl, rfl⟩ rfl rfl (Nat.le_of_ble_eq_true rfl) dX10_does_57) (c_X10_noHusk l (k + 2) _ _ _ _ _ B hM hw) (by omega) (by decide) ?_
      refine wp_if_ne 68 dX10_does_60 (by decide) (fun c56 => ?_) (fun c56 => ?_)
      · rw [ite01, Classical.not_not] at c56
        have hh : ¬ x % 10 < B.1.1 := fun h => absurd c56 (isIn_ok h (by omega))
        refine wp_iconst (v := 0) dX10_does_68 (by decide) ?_
        exact wp_iret hC rfl rfl dX10_does_69 (pI_ok (by rw [show (doP B T (x / 10) (x % 10)).2 = 0 from by unfold doP; rw [hq, if_pos rfl, if_neg (show ¬ x % 10 = 0 by omega)]]; exact ⟨rfl, fun h => absurd rfl h, frG.refl 30 30 132 F A, rfl, rfl⟩))
      · rw [ite01] at c56
        have hh : x % 10 < B.1.1 := by rcases Nat.lt_or_ge (x % 10) B.1.1 with h | h; exact h; exact absurd (by rw [isIn_nI (by omega) (by omega), if_neg (by omega)]) c56
        refine wp_iload_n dX10_does_63 rfl 2 rfl ?_
        refine wp_iconst (v := 5) dX10_does_64 (by decide) ?_
        refine wp_icmp_le 70 dX10_does_65 (by decide) (fun c57 => ?_) (fun c57 => ?_)
        · exact absurd c57 (by decide)
        · refine wp_iconst (v := 0) dX10_does_68 (by decide) ?_
          exact wp_iret hC rfl rfl dX10_does_69 (pI_ok (by rw [show (doP B T (x / 10) (x % 10)).2 = 0 from by unfold doP; rw [hq, if_pos rfl, if_neg (show ¬ x % 10 = 0 by omega)]]; exact ⟨rfl, fun h => absurd rfl h, frG.refl 30 30 132 F A, rfl, rfl⟩))
    · replace c55 := (ix_eq (a := x) (b := 60) (rfl) (rfl) (by omega) (by omega)).mp c55
      have hh0 : x % 10 = 0 := by omega
      refine wp_aload_n dX10_does_16 rfl 0 rfl ?_
      refine wp_getO (q := 132) fX10_34 hR rfl (rfl) (by decide) (by decide) rfl dX10_does_17 ?_
      refine wp_bipush (v := 14) dX10_does_20 (by decide) ?_
      refine wp_iald 14 (rfl) (rfl) (by decide) ((show 14 < 15 from by omega)) dX10_does_22 ?_
      refine wp_top (x' := T.2.2 6) (hT 14 (by decide)) ?_
      refine wp_bipush (v := 9) dX10_does_23 (by decide) ?_
      refine wp_icmp_ge 32 dX10_does_25 (by decide) (fun c58 => ?_) (fun c58 => ?_)
      · refine wp_iconst (v := 0) dX10_does_32 (by decide) ?_
        refine wp_istore [1, 2, 3, 4, 0] (by decide) rfl rfl rfl dX10_does_33 ?_
        refine wp_aload_n dX10_does_35 rfl 0 rfl ?_
        refine wp_getO (q := 132) fX10_34 hR rfl (rfl) (by decide) (by decide) rfl dX10_does_36 ?_
        refine wp_bipush (v := 14) dX10_does_39 (by decide) ?_
        refine wp_aload_n dX10_does_41 rfl 0 rfl ?_
        refine wp_getO (q := 132) fX10_34 hR rfl (rfl) (by decide) (by decide) rfl dX10_does_42 ?_
        refine wp_bipush (v := 14) dX10_does_45 (by decide) ?_
        refine wp_iald 14 (rfl) (rfl) (by decide) ((show 14 < 15 from by omega)) dX10_does_47 ?_
        refine wp_top (x' := T.2.2 6) (hT 14 (by decide)) ?_
        refine wp_callP (e := if (9 : Int32) < T.2.2 6 + 3 then 9 else T.2.2 6 + 3) (mm_siteS (av := [.int (T.2.2 6)]) hC lX10_199 rfl rfl (Nat.le_of_ble_eq_true rfl) dX10_does_48) (c_X10_paidMore l (k + 3) _ _ _ _ (T.2.2 6)) (by omega) (by decide) ?_
        refine wp_iast 14 (rfl) (rfl) (by decide) ((show 14 < 15 from by omega)) dX10_does_51 ?_
        refine wp_iload dX10_does_52 4 rfl ?_
        exact wp_iret hC rfl rfl dX10_does_54 (pI_ok (by rw [show (doP B T (x / 10) (x % 10)).2 = 0 from by unfold doP; rw [hq, hh0, if_pos rfl, if_pos rfl]; exact if_neg (Int32.not_lt.mpr c58)]; exact ⟨rfl, fun h => absurd rfl h, frG.A (Or.inl rfl) (fun r hr => u2_ne hr), rfl, rfl⟩))
      · obtain ⟨pd, hpd9, hpe⟩ := hpd
        have hpq := pay_eq hpd9 (fun e => c58 (by rw [hpe, e]; decide))
        rw [← hpe] at hpq
        refine wp_iconst (v := 1) dX10_does_28 (by decide) ?_
        refine wp_goto 33 dX10_does_29 (by decide) ?_
        refine wp_istore [1, 2, 3, 4, 0] (by decide) rfl rfl rfl dX10_does_33 ?_
        refine wp_aload_n dX10_does_35 rfl 0 rfl ?_
        refine wp_getO (q := 132) fX10_34 hR rfl (rfl) (by decide) (by decide) rfl dX10_does_36 ?_
        refine wp_bipush (v := 14) dX10_does_39 (by decide) ?_
        refine wp_aload_n dX10_does_41 rfl 0 rfl ?_
        refine wp_getO (q := 132) fX10_34 hR rfl (rfl) (by decide) (by decide) rfl dX10_does_42 ?_
        refine wp_bipush (v := 14) dX10_does_45 (by decide) ?_
        refine wp_iald 14 (rfl) (rfl) (by decide) ((show 14 < 15 from by omega)) dX10_does_47 ?_
        refine wp_top (x' := T.2.2 6) (hT 14 (by decide)) ?_
        refine wp_callP (e := if (9 : Int32) < T.2.2 6 + 3 then 9 else T.2.2 6 + 3) (mm_siteS (av := [.int (T.2.2 6)]) hC lX10_199 rfl rfl (Nat.le_of_ble_eq_true rfl) dX10_does_48) (c_X10_paidMore l (k + 3) _ _ _ _ (T.2.2 6)) (by omega) (by decide) ?_
        refine wp_iast 14 (rfl) (rfl) (by decide) ((show 14 < 15 from by omega)) dX10_does_51 ?_
        refine wp_iload dX10_does_52 4 rfl ?_
        exact wp_iret hC rfl rfl dX10_does_54 (pI_ok (by rw [show doP B T (x / 10) (x % 10) = (payS T, 1) from by unfold doP; rw [hq, hh0, if_pos rfl, if_pos rfl, if_pos (Int32.not_le.mp c58)]]; exact ⟨rfl, fun _ => by unfold payS; rw [if_pos hpq.1, ← hpq.2]; exact isP_14 hT, frG.A (Or.inl rfl) (fun r hr => u2_ne hr), rfl, rfl⟩))
  · refine wp_top (x' := nI 7) (by rw [hq]) ?_
    refine wp_istore_n [1, 2, 0] (by decide) rfl rfl rfl dX10_does_4 rfl ?_
    refine wp_iload_n dX10_does_5 rfl 1 rfl ?_
    refine wp_bipush (v := 10) dX10_does_6 (by decide) ?_
    refine wp_irem dX10_does_8 (by decide) ?_
    refine wp_top (x' := nI (x % 10)) (ix_rem (a := x) (b := 10) rfl rfl (by omega) (by decide) (by decide)) ?_
    refine wp_istore_n [1, 2, 3, 0] (by decide) rfl rfl rfl dX10_does_9 rfl ?_
    refine wp_iload_n dX10_does_10 rfl 1 rfl ?_
    refine wp_bipush (v := 60) dX10_does_11 (by decide) ?_
    refine wp_icmp_ne 55 dX10_does_13 (by decide) (fun c59 => ?_) (fun c59 => ?_)
    · replace c59 := mt (ix_eq (a := x) (b := 60) (rfl) (rfl) (by omega) (by omega)).mpr c59
      refine wp_aload_n dX10_does_55 rfl 0 rfl ?_
      refine wp_iload_n dX10_does_56 rfl 3 rfl ?_
      refine wp_callP (e := if isIn (nI (x % 10)) (nI B.1.1) = 0 then 1 else 0) (mm_siteV (av := [.int (nI (x % 10))]) hC lX10_179 (rfl) (by decide) ⟨_, rfl, rfl⟩ rfl rfl (Nat.le_of_ble_eq_true rfl) dX10_does_57) (c_X10_noHusk l (k + 2) _ _ _ _ _ B hM hw) (by omega) (by decide) ?_
      refine wp_if_ne 68 dX10_does_60 (by decide) (fun c60 => ?_) (fun c60 => ?_)
      · rw [ite01, Classical.not_not] at c60
        have hh : ¬ x % 10 < B.1.1 := fun h => absurd c60 (isIn_ok h (by omega))
        refine wp_iconst (v := 0) dX10_does_68 (by decide) ?_
        exact wp_iret hC rfl rfl dX10_does_69 (pI_ok (by rw [show (doP B T (x / 10) (x % 10)).2 = 0 from by unfold doP; rw [hq, if_neg (by decide), if_neg hh]]; exact ⟨rfl, fun h => absurd rfl h, frG.refl 30 30 132 F A, rfl, rfl⟩))
      · rw [ite01] at c60
        have hh : x % 10 < B.1.1 := by rcases Nat.lt_or_ge (x % 10) B.1.1 with h | h; exact h; exact absurd (by rw [isIn_nI (by omega) (by omega), if_neg (by omega)]) c60
        refine wp_iload_n dX10_does_63 rfl 2 rfl ?_
        refine wp_iconst (v := 5) dX10_does_64 (by decide) ?_
        refine wp_icmp_le 70 dX10_does_65 (by decide) (fun c61 => ?_) (fun c61 => ?_)
        · exact absurd c61 (by decide)
        · refine wp_iconst (v := 0) dX10_does_68 (by decide) ?_
          exact wp_iret hC rfl rfl dX10_does_69 (pI_ok (by rw [show (doP B T (x / 10) (x % 10)).2 = 0 from by unfold doP; rw [hq, if_neg (by decide), if_pos hh, if_neg (by decide), if_neg (by decide), if_neg (by omega)]]; exact ⟨rfl, fun h => absurd rfl h, frG.refl 30 30 132 F A, rfl, rfl⟩))
    · replace c59 := (ix_eq (a := x) (b := 60) (rfl) (rfl) (by omega) (by omega)).mp c59
      exact absurd c59 (by omega)
  · refine wp_top (x' := nI 8) (by rw [hq]) ?_
    refine wp_istore_n [1, 2, 0] (by decide) rfl rfl rfl dX10_does_4 rfl ?_
    refine wp_iload_n dX10_does_5 rfl 1 rfl ?_
    refine wp_bipush (v := 10) dX10_does_6 (by decide) ?_
    refine wp_irem dX10_does_8 (by decide) ?_
    refine wp_top (x' := nI (x % 10)) (ix_rem (a := x) (b := 10) rfl rfl (by omega) (by decide) (by decide)) ?_
    refine wp_istore_n [1, 2, 3, 0] (by decide) rfl rfl rfl dX10_does_9 rfl ?_
    refine wp_iload_n dX10_does_10 rfl 1 rfl ?_
    refine wp_bipush (v := 60) dX10_does_11 (by decide) ?_
    refine wp_icmp_ne 55 dX10_does_13 (by decide) (fun c62 => ?_) (fun c62 => ?_)
    · replace c62 := mt (ix_eq (a := x) (b := 60) (rfl) (rfl) (by omega) (by omega)).mpr c62
      refine wp_aload_n dX10_does_55 rfl 0 rfl ?_
      refine wp_iload_n dX10_does_56 rfl 3 rfl ?_
      refine wp_callP (e := if isIn (nI (x % 10)) (nI B.1.1) = 0 then 1 else 0) (mm_siteV (av := [.int (nI (x % 10))]) hC lX10_179 (rfl) (by decide) ⟨_, rfl, rfl⟩ rfl rfl (Nat.le_of_ble_eq_true rfl) dX10_does_57) (c_X10_noHusk l (k + 2) _ _ _ _ _ B hM hw) (by omega) (by decide) ?_
      refine wp_if_ne 68 dX10_does_60 (by decide) (fun c63 => ?_) (fun c63 => ?_)
      · rw [ite01, Classical.not_not] at c63
        have hh : ¬ x % 10 < B.1.1 := fun h => absurd c63 (isIn_ok h (by omega))
        refine wp_iconst (v := 0) dX10_does_68 (by decide) ?_
        exact wp_iret hC rfl rfl dX10_does_69 (pI_ok (by rw [show (doP B T (x / 10) (x % 10)).2 = 0 from by unfold doP; rw [hq, if_neg (by decide), if_neg hh]]; exact ⟨rfl, fun h => absurd rfl h, frG.refl 30 30 132 F A, rfl, rfl⟩))
      · rw [ite01] at c63
        have hh : x % 10 < B.1.1 := by rcases Nat.lt_or_ge (x % 10) B.1.1 with h | h; exact h; exact absurd (by rw [isIn_nI (by omega) (by omega), if_neg (by omega)]) c63
        refine wp_iload_n dX10_does_63 rfl 2 rfl ?_
        refine wp_iconst (v := 5) dX10_does_64 (by decide) ?_
        refine wp_icmp_le 70 dX10_does_65 (by decide) (fun c64 => ?_) (fun c64 => ?_)
        · exact absurd c64 (by decide)
        · refine wp_iconst (v := 0) dX10_does_68 (by decide) ?_
          exact wp_iret hC rfl rfl dX10_does_69 (pI_ok (by rw [show (doP B T (x / 10) (x % 10)).2 = 0 from by unfold doP; rw [hq, if_neg (by decide), if_pos hh, if_neg (by decide), if_neg (by decide), if_neg (by omega)]]; exact ⟨rfl, fun h => absurd rfl h, frG.refl 30 30 132 F A, rfl, rfl⟩))
    · replace c62 := (ix_eq (a := x) (b := 60) (rfl) (rfl) (by omega) (by omega)).mp c62
      exact absurd c62 (by omega)
  · refine wp_top (x' := nI 9) (by rw [hq]) ?_
    refine wp_istore_n [1, 2, 0] (by decide) rfl rfl rfl dX10_does_4 rfl ?_
    refine wp_iload_n dX10_does_5 rfl 1 rfl ?_
    refine wp_bipush (v := 10) dX10_does_6 (by decide) ?_
    refine wp_irem dX10_does_8 (by decide) ?_
    refine wp_top (x' := nI (x % 10)) (ix_rem (a := x) (b := 10) rfl rfl (by omega) (by decide) (by decide)) ?_
    refine wp_istore_n [1, 2, 3, 0] (by decide) rfl rfl rfl dX10_does_9 rfl ?_
    refine wp_iload_n dX10_does_10 rfl 1 rfl ?_
    refine wp_bipush (v := 60) dX10_does_11 (by decide) ?_
    refine wp_icmp_ne 55 dX10_does_13 (by decide) (fun c65 => ?_) (fun c65 => ?_)
    · replace c65 := mt (ix_eq (a := x) (b := 60) (rfl) (rfl) (by omega) (by omega)).mpr c65
      refine wp_aload_n dX10_does_55 rfl 0 rfl ?_
      refine wp_iload_n dX10_does_56 rfl 3 rfl ?_
      refine wp_callP (e := if isIn (nI (x % 10)) (nI B.1.1) = 0 then 1 else 0) (mm_siteV (av := [.int (nI (x % 10))]) hC lX10_179 (rfl) (by decide) ⟨_, rfl, rfl⟩ rfl rfl (Nat.le_of_ble_eq_true rfl) dX10_does_57) (c_X10_noHusk l (k + 2) _ _ _ _ _ B hM hw) (by omega) (by decide) ?_
      refine wp_if_ne 68 dX10_does_60 (by decide) (fun c66 => ?_) (fun c66 => ?_)
      · rw [ite01, Classical.not_not] at c66
        have hh : ¬ x % 10 < B.1.1 := fun h => absurd c66 (isIn_ok h (by omega))
        refine wp_iconst (v := 0) dX10_does_68 (by decide) ?_
        exact wp_iret hC rfl rfl dX10_does_69 (pI_ok (by rw [show (doP B T (x / 10) (x % 10)).2 = 0 from by unfold doP; rw [hq, if_neg (by decide), if_neg hh]]; exact ⟨rfl, fun h => absurd rfl h, frG.refl 30 30 132 F A, rfl, rfl⟩))
      · rw [ite01] at c66
        have hh : x % 10 < B.1.1 := by rcases Nat.lt_or_ge (x % 10) B.1.1 with h | h; exact h; exact absurd (by rw [isIn_nI (by omega) (by omega), if_neg (by omega)]) c66
        refine wp_iload_n dX10_does_63 rfl 2 rfl ?_
        refine wp_iconst (v := 5) dX10_does_64 (by decide) ?_
        refine wp_icmp_le 70 dX10_does_65 (by decide) (fun c67 => ?_) (fun c67 => ?_)
        · exact absurd c67 (by decide)
        · refine wp_iconst (v := 0) dX10_does_68 (by decide) ?_
          exact wp_iret hC rfl rfl dX10_does_69 (pI_ok (by rw [show (doP B T (x / 10) (x % 10)).2 = 0 from by unfold doP; rw [hq, if_neg (by decide), if_pos hh, if_neg (by decide), if_neg (by decide), if_neg (by omega)]]; exact ⟨rfl, fun h => absurd rfl h, frG.refl 30 30 132 F A, rfl, rfl⟩))
    · replace c65 := (ix_eq (a := x) (b := 60) (rfl) (rfl) (by omega) (by omega)).mp c65
      exact absurd c65 (by omega)

