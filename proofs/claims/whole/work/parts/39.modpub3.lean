set_option maxRecDepth 100000 in
set_option maxHeartbeats 600000 in
theorem c_X10_holds (l : Launch) (k : Nat) (F A : mmF) (R : mmR) (G : mmG) (x : Int32) (Q : QV) (hX : RepM F A R G Q) (hwf : wfQ Q) (hE1 : ∀ i, i < (qE Q).1 → (qE Q).2 2 i = 0 ∨ (qE Q).2 2 i = 1) : Meets l hX10_holds (k + 2) 144 144 [.ref 123, .int x] F A R G (pI (fun v F1 A1 R1 G1 => v = wHolds Q x ∧ RepM F1 A1 R1 G1 Q ∧ frY F A R G F1 A1 R1 G1)) := by
  refine mm_start rfl (Nat.le_of_ble_eq_true rfl) (fun X hC => ?_)
  show WP hX10_holds X 144 0 [(0, .ref 123), (1, .int x)] [] F A R G
  obtain ⟨hw60, hw, hwS, hwA, hwE, hwK⟩ := id hwf
  have hw1 := hw.1
  obtain ⟨k0, hk0⟩ : ∃ k0, k0 = k := ⟨_, rfl⟩
  refine wp_aload_n dX10_holds_0 rfl 0 rfl ?_
  refine wp_iconst (v := 0) dX10_holds_1 (by decide) ?_
  refine wp_putI fX10_71 fn_10_0 rfl (rfl) (by decide) dX10_holds_2 ?_
  obtain ⟨F0, hF0⟩ : ∃ z, z = u2 F 123 0 0 := ⟨_, rfl⟩
  rw [← hF0]
  have hs0 : scN F A F0 A := by rw [hF0]; exact scN.F (by decide)
  obtain ⟨hX0, hy0⟩ := hX.scr hs0
  obtain ⟨hR, ⟨hn, ht⟩, hM, hP, ⟨ha, hac⟩, ⟨he, hes⟩, hk, hg⟩ := id hX0
  refine wp_aload_n dX10_holds_5 rfl 0 rfl ?_
  refine wp_iload_n dX10_holds_6 rfl 1 rfl ?_
  refine wp_callP (e := if isIn x (nI (qB Q).1.1) = 0 then 1 else 0) (mm_siteV (av := [.int x]) hC lX10_179 (rfl) (by decide) ⟨_, rfl, rfl⟩ rfl rfl (Nat.le_of_ble_eq_true rfl) dX10_holds_7) (c_X10_noHusk l k0 _ _ _ _ _ (qB Q) hM hw) (by omega) (by decide) ?_
  refine wp_if_eq 15 dX10_holds_10 (by decide) (fun c1 => ?_) (fun c1 => ?_)
  · rw [ite01] at c1
    obtain ⟨h, hh, rfl⟩ := isIn_nat (by omega) c1
    refine wp_iconst (v := 0) dX10_holds_15 (by decide) ?_
    refine wp_istore_n [1, 2, 0] (by decide) rfl rfl rfl dX10_holds_16 rfl ?_
    refine wp_iconst (v := 1) dX10_holds_17 (by decide) ?_
    refine wp_istore_n [1, 2, 3, 0] (by decide) rfl rfl rfl dX10_holds_18 rfl ?_
    have lp : ∀ (nn : Nat) (v : Nat) (q : Int32), (1 ≤ v ∧ v ≤ 10) → (hoP (qE Q).2 (qE Q).1 (nI h) (4 * bt ((qS Q).2.2 4) (nI h)) = (List.range' v (10 - v)).foldl (fun b v => if agP (qE Q).2 (nI h) (nI v + 4 * bt ((qS Q).2.2 4) (nI h)) 0 (qE Q).1 = 0 then b else b ||| sh v) q) → 10 - v < nn → WP hX10_holds X 144 19 [(0, .ref 123), (1, .int (nI h)), (2, .int q), (3, .int (nI v))] [] F0 A R G := by
      intro nn
      induction nn with
      | zero => intro v q _ _ hm; exact absurd hm (Nat.not_lt_zero _)
      | succ nn ih_lp =>
        intro v q hv9 hv hm_lp
        refine wp_iload_n dX10_holds_19 rfl 3 rfl ?_
        refine wp_bipush (v := 10) dX10_holds_20 (by decide) ?_
        refine wp_icmp_ge 149 dX10_holds_22 (by decide) (fun c2 => ?_) (fun c2 => ?_)
        · replace c2 := (ix_le (a := 10) (b := v) (rfl) (rfl) (by omega) (by omega)).mp c2
          refine wp_iload_n dX10_holds_149 rfl 2 rfl ?_
          exact wp_iret hC rfl rfl dX10_holds_150 (pI_ok ⟨by unfold wHolds; rw [if_neg c1, hv, show 10 - v = 0 by omega]; rfl, hX0, hy0⟩)
        · replace c2 := mt (ix_le (a := 10) (b := v) (rfl) (rfl) (by omega) (by omega)).mpr c2
          refine wp_iload_n dX10_holds_25 rfl 3 rfl ?_
          refine wp_aload_n dX10_holds_26 rfl 0 rfl ?_
          refine wp_getO (q := 131) fX10_31 hR rfl (rfl) (by decide) (by decide) rfl dX10_holds_27 ?_
          refine wp_bipush (v := 11) dX10_holds_30 (by decide) ?_
          refine wp_iald 11 (rfl) (rfl) (by decide) ((show 11 < 15 from by omega)) dX10_holds_32 ?_
          refine wp_top (x' := (qS Q).2.2 4) (hP 11 (by decide)) ?_
          refine wp_iload_n dX10_holds_33 rfl 1 rfl ?_
          refine wp_callP (e := bt ((qS Q).2.2 4) (nI h)) (mm_siteS (av := [.int ((qS Q).2.2 4), .int (nI h)]) hC lX10_144 rfl rfl (Nat.le_of_ble_eq_true rfl) dX10_holds_34) (c_X10_has l (k0 + 1) _ _ _ _ ((qS Q).2.2 4) (nI h)) (by omega) (by decide) ?_
          refine wp_if_eq 44 dX10_holds_37 (by decide) (fun c3 => ?_) (fun c3 => ?_)
          · refine wp_iconst (v := 0) dX10_holds_44 (by decide) ?_
            refine wp_iadd dX10_holds_45 ?_
            refine wp_istore [1, 2, 3, 4, 0] (by decide) rfl rfl rfl dX10_holds_46 ?_
            refine wp_iconst (v := 1) dX10_holds_48 (by decide) ?_
            refine wp_istore [1, 2, 3, 4, 5, 0] (by decide) rfl rfl rfl dX10_holds_49 ?_
            refine wp_iconst (v := 0) dX10_holds_51 (by decide) ?_
            refine wp_istore [1, 2, 3, 4, 5, 6, 0] (by decide) rfl rfl rfl dX10_holds_52 ?_
            have lq : ∀ (mm : Nat) (k : Nat) (s : Int32), (k ≤ (qE Q).1) → ((s = 1 ∧ agP (qE Q).2 (nI h) ((nI v) + 0) 0 (qE Q).1 = agP (qE Q).2 (nI h) ((nI v) + 0) k ((qE Q).1 - k)) ∨ (s = 0 ∧ agP (qE Q).2 (nI h) ((nI v) + 0) 0 (qE Q).1 = 0)) → (qE Q).1 - k < mm → WP hX10_holds X 144 54 [(0, .ref 123), (1, .int (nI h)), (2, .int q), (3, .int (nI v)), (4, .int ((nI v) + 0)), (5, .int s), (6, .int (nI k))] [] F0 A R G := by
              intro mm
              induction mm with
              | zero => intro k s _ _ hm; exact absurd hm (Nat.not_lt_zero _)
              | succ mm ih_lq =>
                intro k s hk7 hs hm_lq
                refine wp_iload dX10_holds_54 6 rfl ?_
                refine wp_aload_n dX10_holds_56 rfl 0 rfl ?_
                refine wp_getI fX10_176 rfl (rfl) (by decide) dX10_holds_57 ?_
                refine wp_top (x' := nI (qE Q).1) (he) ?_
                refine wp_icmp_ge 128 dX10_holds_60 (by decide) (fun c4 => ?_) (fun c4 => ?_)
                · replace c4 := (ix_le (a := (qE Q).1) (b := k) (rfl) (rfl) (by omega) (by omega)).mp c4
                  refine wp_iload_n dX10_holds_128 rfl 2 rfl ?_
                  refine wp_iload dX10_holds_129 5 rfl ?_
                  refine wp_if_eq 140 dX10_holds_131 (by decide) (fun c5 => ?_) (fun c5 => ?_)
                  · refine wp_iconst (v := 0) dX10_holds_140 (by decide) ?_
                    refine wp_ior dX10_holds_141 ?_
                    refine wp_istore_n [1, 2, 0, 4, 5, 6, 7] (by decide) rfl rfl rfl dX10_holds_142 rfl ?_
                    refine wp_iinc (v := nI (v + 1)) 3 rfl (by exact nI_1 v) [1, 2, 3, 0, 5, 6, 7] (by decide) rfl rfl rfl dX10_holds_143 ?_
                    refine wp_goto 19 dX10_holds_146 (by decide) ?_
                    refine wp_lv [0, 1, 2, 3] rfl ?_
                    exact ih_lp (v + 1) (q ||| 0) (by omega) (by rw [hv, foldl_go (by omega)]; have e4 : nI v + 4 * bt ((qS Q).2.2 4) (nI h) = (nI v) + 0 := (by rw [c3]; rfl); rw [e4, if_pos (by rcases hs with ⟨h1, -⟩ | ⟨-, h2⟩; (rw [h1] at c5; exact absurd c5 (by decide)); exact h2), Int32.or_zero]) (by omega)
                  · refine wp_iconst (v := 1) dX10_holds_134 (by decide) ?_
                    refine wp_iload_n dX10_holds_135 rfl 3 rfl ?_
                    refine wp_ishl dX10_holds_136 ?_
                    refine wp_goto 141 dX10_holds_137 (by decide) ?_
                    refine wp_ior dX10_holds_141 ?_
                    refine wp_istore_n [1, 2, 0, 4, 5, 6, 7] (by decide) rfl rfl rfl dX10_holds_142 rfl ?_
                    refine wp_iinc (v := nI (v + 1)) 3 rfl (by exact nI_1 v) [1, 2, 3, 0, 5, 6, 7] (by decide) rfl rfl rfl dX10_holds_143 ?_
                    refine wp_goto 19 dX10_holds_146 (by decide) ?_
                    refine wp_lv [0, 1, 2, 3] rfl ?_
                    exact ih_lp (v + 1) (q ||| ((1 : Int32) <<< (nI v &&& 31))) (by omega) (by rw [hv, foldl_go (by omega)]; have e4 : nI v + 4 * bt ((qS Q).2.2 4) (nI h) = (nI v) + 0 := (by rw [c3]; rfl); rw [e4, if_neg (by rcases hs with ⟨-, e⟩ | ⟨h1, -⟩; (rw [e, show (qE Q).1 - k = 0 by omega]; exact (by decide : ¬ (1 : Int32) = 0)); exact absurd h1 c5)]; rfl) (by omega)
                · replace c4 := mt (ix_le (a := (qE Q).1) (b := k) (rfl) (rfl) (by omega) (by omega)).mpr c4
                  refine wp_iload dX10_holds_63 5 rfl ?_
                  refine wp_if_eq 119 dX10_holds_65 (by decide) (fun c6 => ?_) (fun c6 => ?_)
                  · refine wp_iconst (v := 0) dX10_holds_119 (by decide) ?_
                    refine wp_istore [1, 2, 3, 4, 5, 0, 7] (by decide) rfl rfl rfl dX10_holds_120 ?_
                    refine wp_iinc (v := nI (k + 1)) 6 rfl (by exact nI_1 k) [1, 2, 3, 4, 5, 6, 0] (by decide) rfl rfl rfl dX10_holds_122 ?_
                    refine wp_goto 54 dX10_holds_125 (by decide) ?_
                    exact ih_lq (k + 1) 0 (by omega) (Or.inr ⟨rfl, by rcases hs with ⟨h1, -⟩ | ⟨-, h2⟩; (rw [h1] at c6; exact absurd c6 (by decide)); exact h2⟩) (by omega)
                  · refine wp_aload_n dX10_holds_68 rfl 0 rfl ?_
                    refine wp_getO (q := 137) fX10_50 hR rfl (rfl) (by decide) (by decide) rfl dX10_holds_69 ?_
                    refine wp_iload dX10_holds_72 6 rfl ?_
                    refine wp_iald k (rfl) (rfl) (by decide) ((show k < 6 from by omega)) dX10_holds_74 ?_
                    refine wp_top (x' := (qE Q).2 0 k) ((hes k (by omega)).1) ?_
                    refine wp_iload_n dX10_holds_75 rfl 1 rfl ?_
                    refine wp_icmp_ne 115 dX10_holds_76 (by decide) (fun c7 => ?_) (fun c7 => ?_)
                    · refine wp_iconst (v := 1) dX10_holds_115 (by decide) ?_
                      refine wp_goto 120 dX10_holds_116 (by decide) ?_
                      refine wp_istore [1, 2, 3, 4, 5, 0, 7] (by decide) rfl rfl rfl dX10_holds_120 ?_
                      refine wp_iinc (v := nI (k + 1)) 6 rfl (by exact nI_1 k) [1, 2, 3, 4, 5, 6, 0] (by decide) rfl rfl rfl dX10_holds_122 ?_
                      refine wp_goto 54 dX10_holds_125 (by decide) ?_
                      exact ih_lq (k + 1) 1 (by omega) (by rcases hs with ⟨-, e⟩ | ⟨h1, -⟩; exact Or.inl ⟨rfl, by rw [e, show (qE Q).1 - k = (qE Q).1 - (k + 1) + 1 by omega, agP, if_neg c7]⟩; exact absurd h1 c6) (by omega)
                    · refine wp_aload_n dX10_holds_79 rfl 0 rfl ?_
                      refine wp_getO (q := 138) fX10_53 hR rfl (rfl) (by decide) (by decide) rfl dX10_holds_80 ?_
                      refine wp_iload dX10_holds_83 6 rfl ?_
                      refine wp_iald k (rfl) (rfl) (by decide) ((show k < 6 from by omega)) dX10_holds_85 ?_
                      refine wp_top (x' := (qE Q).2 1 k) ((hes k (by omega)).2.1) ?_
                      refine wp_iload dX10_holds_86 4 rfl ?_
                      refine wp_icmp_lt 95 dX10_holds_88 (by decide) (fun c8 => ?_) (fun c8 => ?_)
                      · refine wp_iconst (v := 0) dX10_holds_95 (by decide) ?_
                        refine wp_aload_n dX10_holds_96 rfl 0 rfl ?_
                        refine wp_getO (q := 139) fX10_56 hR rfl (rfl) (by decide) (by decide) rfl dX10_holds_97 ?_
                        refine wp_iload dX10_holds_100 6 rfl ?_
                        refine wp_iald k (rfl) (rfl) (by decide) ((show k < 6 from by omega)) dX10_holds_102 ?_
                        refine wp_top (x' := (qE Q).2 2 k) ((hes k (by omega)).2.2) ?_
                        refine wp_iconst (v := 1) dX10_holds_103 (by decide) ?_
                        refine wp_icmp_ne 111 dX10_holds_104 (by decide) (fun c9 => ?_) (fun c9 => ?_)
                        · refine wp_iconst (v := 0) dX10_holds_111 (by decide) ?_
                          refine wp_icmp_ne 119 dX10_holds_112 (by decide) (fun c10 => ?_) (fun c10 => ?_)
                          · exact absurd (by decide) c10
                          · refine wp_iconst (v := 1) dX10_holds_115 (by decide) ?_
                            refine wp_goto 120 dX10_holds_116 (by decide) ?_
                            refine wp_istore [1, 2, 3, 4, 5, 0, 7] (by decide) rfl rfl rfl dX10_holds_120 ?_
                            refine wp_iinc (v := nI (k + 1)) 6 rfl (by exact nI_1 k) [1, 2, 3, 4, 5, 6, 0] (by decide) rfl rfl rfl dX10_holds_122 ?_
                            refine wp_goto 54 dX10_holds_125 (by decide) ?_
                            exact ih_lq (k + 1) 1 (by omega) (by rcases hs with ⟨-, e⟩ | ⟨h1, -⟩; exact Or.inl ⟨rfl, by rw [e, show (qE Q).1 - k = (qE Q).1 - (k + 1) + 1 by omega, agP, if_pos c7, if_pos c8, (hE1 k (by omega)).resolve_right c9, if_pos rfl]⟩; exact absurd h1 c6) (by omega)
                        · refine wp_iconst (v := 1) dX10_holds_107 (by decide) ?_
                          refine wp_goto 112 dX10_holds_108 (by decide) ?_
                          refine wp_icmp_ne 119 dX10_holds_112 (by decide) (fun c11 => ?_) (fun c11 => ?_)
                          · refine wp_iconst (v := 0) dX10_holds_119 (by decide) ?_
                            refine wp_istore [1, 2, 3, 4, 5, 0, 7] (by decide) rfl rfl rfl dX10_holds_120 ?_
                            refine wp_iinc (v := nI (k + 1)) 6 rfl (by exact nI_1 k) [1, 2, 3, 4, 5, 6, 0] (by decide) rfl rfl rfl dX10_holds_122 ?_
                            refine wp_goto 54 dX10_holds_125 (by decide) ?_
                            exact ih_lq (k + 1) 0 (by omega) (by rcases hs with ⟨-, e⟩ | ⟨h1, -⟩; exact Or.inr ⟨rfl, by rw [e, show (qE Q).1 - k = (qE Q).1 - (k + 1) + 1 by omega, agP, if_pos c7, if_pos c8, c9, if_neg (by decide)]⟩; exact absurd h1 c6) (by omega)
                          · exact absurd c11 (by decide)
                      · refine wp_iconst (v := 1) dX10_holds_91 (by decide) ?_
                        refine wp_goto 96 dX10_holds_92 (by decide) ?_
                        refine wp_aload_n dX10_holds_96 rfl 0 rfl ?_
                        refine wp_getO (q := 139) fX10_56 hR rfl (rfl) (by decide) (by decide) rfl dX10_holds_97 ?_
                        refine wp_iload dX10_holds_100 6 rfl ?_
                        refine wp_iald k (rfl) (rfl) (by decide) ((show k < 6 from by omega)) dX10_holds_102 ?_
                        refine wp_top (x' := (qE Q).2 2 k) ((hes k (by omega)).2.2) ?_
                        refine wp_iconst (v := 1) dX10_holds_103 (by decide) ?_
                        refine wp_icmp_ne 111 dX10_holds_104 (by decide) (fun c12 => ?_) (fun c12 => ?_)
                        · refine wp_iconst (v := 0) dX10_holds_111 (by decide) ?_
                          refine wp_icmp_ne 119 dX10_holds_112 (by decide) (fun c13 => ?_) (fun c13 => ?_)
                          · refine wp_iconst (v := 0) dX10_holds_119 (by decide) ?_
                            refine wp_istore [1, 2, 3, 4, 5, 0, 7] (by decide) rfl rfl rfl dX10_holds_120 ?_
                            refine wp_iinc (v := nI (k + 1)) 6 rfl (by exact nI_1 k) [1, 2, 3, 4, 5, 6, 0] (by decide) rfl rfl rfl dX10_holds_122 ?_
                            refine wp_goto 54 dX10_holds_125 (by decide) ?_
                            exact ih_lq (k + 1) 0 (by omega) (by rcases hs with ⟨-, e⟩ | ⟨h1, -⟩; exact Or.inr ⟨rfl, by rw [e, show (qE Q).1 - k = (qE Q).1 - (k + 1) + 1 by omega, agP, if_pos c7, if_neg c8, (hE1 k (by omega)).resolve_right c12, if_neg (by decide)]⟩; exact absurd h1 c6) (by omega)
                          · exact absurd c13 (by decide)
                        · refine wp_iconst (v := 1) dX10_holds_107 (by decide) ?_
                          refine wp_goto 112 dX10_holds_108 (by decide) ?_
                          refine wp_icmp_ne 119 dX10_holds_112 (by decide) (fun c14 => ?_) (fun c14 => ?_)
                          · exact absurd (by decide) c14
                          · refine wp_iconst (v := 1) dX10_holds_115 (by decide) ?_
                            refine wp_goto 120 dX10_holds_116 (by decide) ?_
                            refine wp_istore [1, 2, 3, 4, 5, 0, 7] (by decide) rfl rfl rfl dX10_holds_120 ?_
                            refine wp_iinc (v := nI (k + 1)) 6 rfl (by exact nI_1 k) [1, 2, 3, 4, 5, 6, 0] (by decide) rfl rfl rfl dX10_holds_122 ?_
                            refine wp_goto 54 dX10_holds_125 (by decide) ?_
                            exact ih_lq (k + 1) 1 (by omega) (by rcases hs with ⟨-, e⟩ | ⟨h1, -⟩; exact Or.inl ⟨rfl, by rw [e, show (qE Q).1 - k = (qE Q).1 - (k + 1) + 1 by omega, agP, if_pos c7, if_neg c8, c12, if_pos rfl]⟩; exact absurd h1 c6) (by omega)
            exact lq ((qE Q).1 + 1) 0 1 (Nat.zero_le _) (Or.inl ⟨rfl, rfl⟩) (by omega)
          · refine wp_iconst (v := 4) dX10_holds_40 (by decide) ?_
            refine wp_goto 45 dX10_holds_41 (by decide) ?_
            refine wp_iadd dX10_holds_45 ?_
            refine wp_istore [1, 2, 3, 4, 0] (by decide) rfl rfl rfl dX10_holds_46 ?_
            refine wp_iconst (v := 1) dX10_holds_48 (by decide) ?_
            refine wp_istore [1, 2, 3, 4, 5, 0] (by decide) rfl rfl rfl dX10_holds_49 ?_
            refine wp_iconst (v := 0) dX10_holds_51 (by decide) ?_
            refine wp_istore [1, 2, 3, 4, 5, 6, 0] (by decide) rfl rfl rfl dX10_holds_52 ?_
            have lq : ∀ (mm : Nat) (k : Nat) (s : Int32), (k ≤ (qE Q).1) → ((s = 1 ∧ agP (qE Q).2 (nI h) ((nI v) + 4) 0 (qE Q).1 = agP (qE Q).2 (nI h) ((nI v) + 4) k ((qE Q).1 - k)) ∨ (s = 0 ∧ agP (qE Q).2 (nI h) ((nI v) + 4) 0 (qE Q).1 = 0)) → (qE Q).1 - k < mm → WP hX10_holds X 144 54 [(0, .ref 123), (1, .int (nI h)), (2, .int q), (3, .int (nI v)), (4, .int ((nI v) + 4)), (5, .int s), (6, .int (nI k))] [] F0 A R G := by
              intro mm
              induction mm with
              | zero => intro k s _ _ hm; exact absurd hm (Nat.not_lt_zero _)
              | succ mm ih_lq =>
                intro k s hk7 hs hm_lq
                refine wp_iload dX10_holds_54 6 rfl ?_
                refine wp_aload_n dX10_holds_56 rfl 0 rfl ?_
                refine wp_getI fX10_176 rfl (rfl) (by decide) dX10_holds_57 ?_
                refine wp_top (x' := nI (qE Q).1) (he) ?_
                refine wp_icmp_ge 128 dX10_holds_60 (by decide) (fun c15 => ?_) (fun c15 => ?_)
                · replace c15 := (ix_le (a := (qE Q).1) (b := k) (rfl) (rfl) (by omega) (by omega)).mp c15
                  refine wp_iload_n dX10_holds_128 rfl 2 rfl ?_
                  refine wp_iload dX10_holds_129 5 rfl ?_
                  refine wp_if_eq 140 dX10_holds_131 (by decide) (fun c16 => ?_) (fun c16 => ?_)
                  · refine wp_iconst (v := 0) dX10_holds_140 (by decide) ?_
                    refine wp_ior dX10_holds_141 ?_
                    refine wp_istore_n [1, 2, 0, 4, 5, 6, 7] (by decide) rfl rfl rfl dX10_holds_142 rfl ?_
                    refine wp_iinc (v := nI (v + 1)) 3 rfl (by exact nI_1 v) [1, 2, 3, 0, 5, 6, 7] (by decide) rfl rfl rfl dX10_holds_143 ?_
                    refine wp_goto 19 dX10_holds_146 (by decide) ?_
                    refine wp_lv [0, 1, 2, 3] rfl ?_
                    exact ih_lp (v + 1) (q ||| 0) (by omega) (by rw [hv, foldl_go (by omega)]; have e4 : nI v + 4 * bt ((qS Q).2.2 4) (nI h) = (nI v) + 4 := (by rw [(bt_one (x := (qS Q).2.2 4) (y := nI h)).resolve_left c3]; rfl); rw [e4, if_pos (by rcases hs with ⟨h1, -⟩ | ⟨-, h2⟩; (rw [h1] at c16; exact absurd c16 (by decide)); exact h2), Int32.or_zero]) (by omega)
                  · refine wp_iconst (v := 1) dX10_holds_134 (by decide) ?_
                    refine wp_iload_n dX10_holds_135 rfl 3 rfl ?_
                    refine wp_ishl dX10_holds_136 ?_
                    refine wp_goto 141 dX10_holds_137 (by decide) ?_
                    refine wp_ior dX10_holds_141 ?_
                    refine wp_istore_n [1, 2, 0, 4, 5, 6, 7] (by decide) rfl rfl rfl dX10_holds_142 rfl ?_
                    refine wp_iinc (v := nI (v + 1)) 3 rfl (by exact nI_1 v) [1, 2, 3, 0, 5, 6, 7] (by decide) rfl rfl rfl dX10_holds_143 ?_
                    refine wp_goto 19 dX10_holds_146 (by decide) ?_
                    refine wp_lv [0, 1, 2, 3] rfl ?_
                    exact ih_lp (v + 1) (q ||| ((1 : Int32) <<< (nI v &&& 31))) (by omega) (by rw [hv, foldl_go (by omega)]; have e4 : nI v + 4 * bt ((qS Q).2.2 4) (nI h) = (nI v) + 4 := (by rw [(bt_one (x := (qS Q).2.2 4) (y := nI h)).resolve_left c3]; rfl); rw [e4, if_neg (by rcases hs with ⟨-, e⟩ | ⟨h1, -⟩; (rw [e, show (qE Q).1 - k = 0 by omega]; exact (by decide : ¬ (1 : Int32) = 0)); exact absurd h1 c16)]; rfl) (by omega)
                · replace c15 := mt (ix_le (a := (qE Q).1) (b := k) (rfl) (rfl) (by omega) (by omega)).mpr c15
                  refine wp_iload dX10_holds_63 5 rfl ?_
                  refine wp_if_eq 119 dX10_holds_65 (by decide) (fun c17 => ?_) (fun c17 => ?_)
                  · refine wp_iconst (v := 0) dX10_holds_119 (by decide) ?_
                    refine wp_istore [1, 2, 3, 4, 5, 0, 7] (by decide) rfl rfl rfl dX10_holds_120 ?_
                    refine wp_iinc (v := nI (k + 1)) 6 rfl (by exact nI_1 k) [1, 2, 3, 4, 5, 6, 0] (by decide) rfl rfl rfl dX10_holds_122 ?_
                    refine wp_goto 54 dX10_holds_125 (by decide) ?_
                    exact ih_lq (k + 1) 0 (by omega) (Or.inr ⟨rfl, by rcases hs with ⟨h1, -⟩ | ⟨-, h2⟩; (rw [h1] at c17; exact absurd c17 (by decide)); exact h2⟩) (by omega)
                  · refine wp_aload_n dX10_holds_68 rfl 0 rfl ?_
                    refine wp_getO (q := 137) fX10_50 hR rfl (rfl) (by decide) (by decide) rfl dX10_holds_69 ?_
                    refine wp_iload dX10_holds_72 6 rfl ?_
                    refine wp_iald k (rfl) (rfl) (by decide) ((show k < 6 from by omega)) dX10_holds_74 ?_
                    refine wp_top (x' := (qE Q).2 0 k) ((hes k (by omega)).1) ?_
                    refine wp_iload_n dX10_holds_75 rfl 1 rfl ?_
                    refine wp_icmp_ne 115 dX10_holds_76 (by decide) (fun c18 => ?_) (fun c18 => ?_)
                    · refine wp_iconst (v := 1) dX10_holds_115 (by decide) ?_
                      refine wp_goto 120 dX10_holds_116 (by decide) ?_
                      refine wp_istore [1, 2, 3, 4, 5, 0, 7] (by decide) rfl rfl rfl dX10_holds_120 ?_
                      refine wp_iinc (v := nI (k + 1)) 6 rfl (by exact nI_1 k) [1, 2, 3, 4, 5, 6, 0] (by decide) rfl rfl rfl dX10_holds_122 ?_
                      refine wp_goto 54 dX10_holds_125 (by decide) ?_
                      exact ih_lq (k + 1) 1 (by omega) (by rcases hs with ⟨-, e⟩ | ⟨h1, -⟩; exact Or.inl ⟨rfl, by rw [e, show (qE Q).1 - k = (qE Q).1 - (k + 1) + 1 by omega, agP, if_neg c18]⟩; exact absurd h1 c17) (by omega)
                    · refine wp_aload_n dX10_holds_79 rfl 0 rfl ?_
                      refine wp_getO (q := 138) fX10_53 hR rfl (rfl) (by decide) (by decide) rfl dX10_holds_80 ?_
                      refine wp_iload dX10_holds_83 6 rfl ?_
                      refine wp_iald k (rfl) (rfl) (by decide) ((show k < 6 from by omega)) dX10_holds_85 ?_
                      refine wp_top (x' := (qE Q).2 1 k) ((hes k (by omega)).2.1) ?_
                      refine wp_iload dX10_holds_86 4 rfl ?_
                      refine wp_icmp_lt 95 dX10_holds_88 (by decide) (fun c19 => ?_) (fun c19 => ?_)
                      · refine wp_iconst (v := 0) dX10_holds_95 (by decide) ?_
                        refine wp_aload_n dX10_holds_96 rfl 0 rfl ?_
                        refine wp_getO (q := 139) fX10_56 hR rfl (rfl) (by decide) (by decide) rfl dX10_holds_97 ?_
                        refine wp_iload dX10_holds_100 6 rfl ?_
                        refine wp_iald k (rfl) (rfl) (by decide) ((show k < 6 from by omega)) dX10_holds_102 ?_
                        refine wp_top (x' := (qE Q).2 2 k) ((hes k (by omega)).2.2) ?_
                        refine wp_iconst (v := 1) dX10_holds_103 (by decide) ?_
                        refine wp_icmp_ne 111 dX10_holds_104 (by decide) (fun c20 => ?_) (fun c20 => ?_)
                        · refine wp_iconst (v := 0) dX10_holds_111 (by decide) ?_
                          refine wp_icmp_ne 119 dX10_holds_112 (by decide) (fun c21 => ?_) (fun c21 => ?_)
                          · exact absurd (by decide) c21
                          · refine wp_iconst (v := 1) dX10_holds_115 (by decide) ?_
                            refine wp_goto 120 dX10_holds_116 (by decide) ?_
                            refine wp_istore [1, 2, 3, 4, 5, 0, 7] (by decide) rfl rfl rfl dX10_holds_120 ?_
                            refine wp_iinc (v := nI (k + 1)) 6 rfl (by exact nI_1 k) [1, 2, 3, 4, 5, 6, 0] (by decide) rfl rfl rfl dX10_holds_122 ?_
                            refine wp_goto 54 dX10_holds_125 (by decide) ?_
                            exact ih_lq (k + 1) 1 (by omega) (by rcases hs with ⟨-, e⟩ | ⟨h1, -⟩; exact Or.inl ⟨rfl, by rw [e, show (qE Q).1 - k = (qE Q).1 - (k + 1) + 1 by omega, agP, if_pos c18, if_pos c19, (hE1 k (by omega)).resolve_right c20, if_pos rfl]⟩; exact absurd h1 c17) (by omega)
                        · refine wp_iconst (v := 1) dX10_holds_107 (by decide) ?_
                          refine wp_goto 112 dX10_holds_108 (by decide) ?_
                          refine wp_icmp_ne 119 dX10_holds_112 (by decide) (fun c22 => ?_) (fun c22 => ?_)
                          · refine wp_iconst (v := 0) dX10_holds_119 (by decide) ?_
                            refine wp_istore [1, 2, 3, 4, 5, 0, 7] (by decide) rfl rfl rfl dX10_holds_120 ?_
                            refine wp_iinc (v := nI (k + 1)) 6 rfl (by exact nI_1 k) [1, 2, 3, 4, 5, 6, 0] (by decide) rfl rfl rfl dX10_holds_122 ?_
                            refine wp_goto 54 dX10_holds_125 (by decide) ?_
                            exact ih_lq (k + 1) 0 (by omega) (by rcases hs with ⟨-, e⟩ | ⟨h1, -⟩; exact Or.inr ⟨rfl, by rw [e, show (qE Q).1 - k = (qE Q).1 - (k + 1) + 1 by omega, agP, if_pos c18, if_pos c19, c20, if_neg (by decide)]⟩; exact absurd h1 c17) (by omega)
                          · exact absurd c22 (by decide)
                      · refine wp_iconst (v := 1) dX10_holds_91 (by decide) ?_
                        refine wp_goto 96 dX10_holds_92 (by decide) ?_
                        refine wp_aload_n dX10_holds_96 rfl 0 rfl ?_
                        refine wp_getO (q := 139) fX10_56 hR rfl (rfl) (by decide) (by decide) rfl dX10_holds_97 ?_
                        refine wp_iload dX10_holds_100 6 rfl ?_
                        refine wp_iald k (rfl) (rfl) (by decide) ((show k < 6 from by omega)) dX10_holds_102 ?_
                        refine wp_top (x' := (qE Q).2 2 k) ((hes k (by omega)).2.2) ?_
                        refine wp_iconst (v := 1) dX10_holds_103 (by decide) ?_
                        refine wp_icmp_ne 111 dX10_holds_104 (by decide) (fun c23 => ?_) (fun c23 => ?_)
                        · refine wp_iconst (v := 0) dX10_holds_111 (by decide) ?_
                          refine wp_icmp_ne 119 dX10_holds_112 (by decide) (fun c24 => ?_) (fun c24 => ?_)
                          · refine wp_iconst (v := 0) dX10_holds_119 (by decide) ?_
                            refine wp_istore [1, 2, 3, 4, 5, 0, 7] (by decide) rfl rfl rfl dX10_holds_120 ?_
                            refine wp_iinc (v := nI (k + 1)) 6 rfl (by exact nI_1 k) [1, 2, 3, 4, 5, 6, 0] (by decide) rfl rfl rfl dX10_holds_122 ?_
                            refine wp_goto 54 dX10_holds_125 (by decide) ?_
                            exact ih_lq (k + 1) 0 (by omega) (by rcases hs with ⟨-, e⟩ | ⟨h1, -⟩; exact Or.inr ⟨rfl, by rw [e, show (qE Q).1 - k = (qE Q).1 - (k + 1) + 1 by omega, agP, if_pos c18, if_neg c19, (hE1 k (by omega)).resolve_right c23, if_neg (by decide)]⟩; exact absurd h1 c17) (by omega)
                          · exact absurd c24 (by decide)
                        · refine wp_iconst (v := 1) dX10_holds_107 (by decide) ?_
                          refine wp_goto 112 dX10_holds_108 (by decide) ?_
                          refine wp_icmp_ne 119 dX10_holds_112 (by decide) (fun c25 => ?_) (fun c25 => ?_)
                          · exact absurd (by decide) c25
                          · refine wp_iconst (v := 1) dX10_holds_115 (by decide) ?_
                            refine wp_goto 120 dX10_holds_116 (by decide) ?_
                            refine wp_istore [1, 2, 3, 4, 5, 0, 7] (by decide) rfl rfl rfl dX10_holds_120 ?_
                            refine wp_iinc (v := nI (k + 1)) 6 rfl (by exact nI_1 k) [1, 2, 3, 4, 5, 6, 0] (by decide) rfl rfl rfl dX10_holds_122 ?_
                            refine wp_goto 54 dX10_holds_125 (by decide) ?_
                            exact ih_lq (k + 1) 1 (by omega) (by rcases hs with ⟨-, e⟩ | ⟨h1, -⟩; exact Or.inl ⟨rfl, by rw [e, show (qE Q).1 - k = (qE Q).1 - (k + 1) + 1 by omega, agP, if_pos c18, if_neg c19, c23, if_pos rfl]⟩; exact absurd h1 c17) (by omega)
            exact lq ((qE Q).1 + 1) 0 1 (Nat.zero_le _) (Or.inl ⟨rfl, rfl⟩) (by omega)
    exact lp (10 + 1) 1 0 (by decide) rfl (by omega)
  · rw [ite01, Classical.not_not] at c1
    refine wp_iconst (v := (-1)) dX10_holds_13 (by decide) ?_
    exact wp_iret hC rfl rfl dX10_holds_14 (pI_ok ⟨by unfold wHolds; rw [if_pos c1], hX0, hy0⟩)

theorem wFairs_no {Q : QV} {x : Int32} (h : inP x 1 30 = 0) : wFairs Q x = (Q, -2) := by
  unfold wFairs
  rcases inP_0 h with h | ⟨h, h2⟩
  · rw [if_pos h]
  · rw [if_neg h, if_neg (Int32.not_le.mpr h2)]
set_option maxRecDepth 100000 in
set_option maxHeartbeats 600000 in
theorem c_X10_fairs (l : Launch) (k : Nat) (F A : mmF) (R : mmR) (G : mmG) (x : Int32) (Q : QV) (hX : RepM F A R G Q) (hwf : wfQ Q) : Meets l hX10_fairs (k + 3) 144 144 [.ref 123, .int x] F A R G (pI (fun v F1 A1 R1 G1 => v = (wFairs Q x).2 ∧ RepM F1 A1 R1 G1 (wFairs Q x).1 ∧ frY F A R G F1 A1 R1 G1)) := by
  refine mm_start rfl (Nat.le_of_ble_eq_true rfl) (fun X hC => ?_)
  show WP hX10_fairs X 144 0 [(0, .ref 123), (1, .int x)] [] F A R G
  obtain ⟨hw60, hw, hwS, hwA, hwE, hwK⟩ := id hwf
  have hw1 := hw.1
  refine wp_aload_n dX10_fairs_0 rfl 0 rfl ?_
  refine wp_iconst (v := 0) dX10_fairs_1 (by decide) ?_
  refine wp_putI fX10_71 fn_10_0 rfl (rfl) (by decide) dX10_fairs_2 ?_
  obtain ⟨F0, hF0⟩ : ∃ z, z = u2 F 123 0 0 := ⟨_, rfl⟩
  rw [← hF0]
  have hs0 : scN F A F0 A := by rw [hF0]; exact scN.F (by decide)
  obtain ⟨hX0, hy0⟩ := hX.scr hs0
  obtain ⟨hR, ⟨hn, ht⟩, hM, hP, ⟨ha, hac⟩, ⟨he, hes⟩, hk, hg⟩ := id hX0
  refine wp_iload_n dX10_fairs_5 rfl 1 rfl ?_
  refine wp_i2l dX10_fairs_6 ?_
  refine wp_lconst (v := 1) dX10_fairs_7 rfl ?_
  refine wp_topL (x' := (1 : Int32).toInt64) (by decide) ?_
  refine wp_ldc2 (v := 30) k_1105 dX10_fairs_8 ?_
  refine wp_topL (x' := (30 : Int32).toInt64) (by decide) ?_
  refine wp_callP (e := inP x 1 30) (mm_siteS (av := [.long x.toInt64, .long ((1 : Int32).toInt64), .long ((30 : Int32).toInt64)]) hC lX10_78 rfl rfl (Nat.le_of_ble_eq_true rfl) dX10_fairs_11) (c_X10_in l (k + 2) _ _ _ _ x 1 30) (by omega) (by decide) ?_
  refine wp_if_ne 20 dX10_fairs_14 (by decide) (fun c1 => ?_) (fun c1 => ?_)
  · obtain ⟨m, hm, rfl⟩ := nI_of2 (x := x) (n := 30) (M := 30) rfl (fun h => (inP_1 c1).1 (Int32.lt_trans h (by decide))) (Int32.not_lt.mp (inP_1 c1).2)
    refine wp_aload_n dX10_fairs_20 rfl 0 rfl ?_
    refine wp_getO (q := 131) fX10_31 hR rfl (rfl) (by decide) (by decide) rfl dX10_fairs_21 ?_
    refine wp_aload_n dX10_fairs_24 rfl 0 rfl ?_
    refine wp_getO (q := 132) fX10_34 hR rfl (rfl) (by decide) (by decide) rfl dX10_fairs_25 ?_
    refine wp_bipush (v := 15) dX10_fairs_28 (by decide) ?_
    refine wp_callV (mm_siteS (av := [.ref 131, .ref 132, .int 15]) hC lX10_137 rfl rfl (Nat.le_of_ble_eq_true rfl) dX10_fairs_30) (c_X10_copyRow l (k + 2) _ _ _ _ 131 132 15 rfl (by decide) (by decide) rfl (by decide) (by decide) (by decide) (by decide)) (by omega) (by decide) (by decide) ?_
    rintro F0 A1 _ _ ⟨rfl, hc1, hr1, rfl, rfl⟩
    have hT1 : isP A1 132 (qS Q) := fun k hk => (hc1 k hk).trans (hP k hk)
    have hs1 : scN F0 A F0 A1 := scN.A (r0 := 132) (by decide) hr1
    have hM1 : isM F0 A1 4 125 (qB Q) := isM_c hM ⟨rfl, rfl, rfl⟩ ⟨hr1 _ (by decide), hr1 _ (by decide), hr1 _ (by decide)⟩
    refine wp_iconst (v := 0) dX10_fairs_33 (by decide) ?_
    refine wp_istore_n [1, 2, 0] (by decide) rfl rfl rfl dX10_fairs_34 rfl ?_
    refine wp_iconst (v := 0) dX10_fairs_35 (by decide) ?_
    refine wp_istore_n [1, 2, 3, 0] (by decide) rfl rfl rfl dX10_fairs_36 rfl ?_
    have lp : ∀ (nn : Nat) (i : Nat) (q : Int32) (T : SV) (F1 A1 : mmF) (G1 : mmG), (i ≤ m) → (fairsP (qB Q) m (qG Q, qS Q, 0) = fairsP (qB Q) (m - i) (G1 123, T, q)) → (isP A1 132 T) → (dn T) → (∀ h, h < (qB Q).1.1 → bt (T.2.2 3) (nI h) = 0 ∨ (qB Q).2 3 h = 3) → (scN F0 A F1 A1) → (isM F1 A1 4 125 (qB Q)) → (∀ r, r ≠ 123 → G1 r = G r) → m - i < nn → WP hX10_fairs X 144 37 [(0, .ref 123), (1, .int (nI m)), (2, .int q), (3, .int (nI i))] [] F1 A1 R G1 := by
      intro nn
      induction nn with
      | zero => intro i q T F1 A1 G1 _ _ _ _ _ _ _ _ hm; exact absurd hm (Nat.not_lt_zero _)
      | succ nn ih_lp =>
        intro i q T F1 A1 G1 hi hv hT hdT hkT hs hM hGr hm_lp
        refine wp_iload_n dX10_fairs_37 rfl 3 rfl ?_
        refine wp_iload_n dX10_fairs_38 rfl 1 rfl ?_
        refine wp_icmp_ge 127 dX10_fairs_39 (by decide) (fun c2 => ?_) (fun c2 => ?_)
        · replace c2 := (ix_le (a := m) (b := i) (rfl) (rfl) (by omega) (by omega)).mp c2
          refine wp_iload_n dX10_fairs_127 rfl 2 rfl ?_
          exact wp_iret hC rfl rfl dX10_fairs_128 (pI_ok (by unfold wFairs; rw [if_neg (inP_1 c1).1, if_pos (Int32.not_lt.mp (inP_1 c1).2), nI_clamp (by omega), hv, show m - i = 0 by omega, fairsP_0]; obtain ⟨hX1, hy1⟩ := hX0.sd hs (G1 := G1) rfl hGr; exact ⟨rfl, hX1, hy0.trans hy1⟩))
        · replace c2 := mt (ix_le (a := m) (b := i) (rfl) (rfl) (by omega) (by omega)).mpr c2
          refine wp_aload_n dX10_fairs_42 rfl 0 rfl ?_
          refine wp_aload_n dX10_fairs_43 rfl 0 rfl ?_
          refine wp_getL fX10_269 rfl (rfl) (by decide) dX10_fairs_44 ?_
          refine wp_ldc2 (v := 6364136223846793005) k_1106 dX10_fairs_47 ?_
          refine wp_lmul dX10_fairs_50 ?_
          refine wp_ldc2 (v := 1442695040888963407) k_1107 dX10_fairs_51 ?_
          refine wp_ladd dX10_fairs_54 ?_
          refine wp_putL fX10_269 fn_10_29 rfl (ft10) (rfl) (by decide) dX10_fairs_55 ?_
          obtain ⟨G2, hG2⟩ : ∃ z, z = va_up G1 123 (((G1 123) * 6364136223846793005) + 1442695040888963407) := ⟨_, rfl⟩
          rw [← hG2]
          have hG20 : G2 123 = nextG (G1 123) := by rw [hG2, va_up_self, nextG_eq]
          obtain ⟨dd, hddE⟩ : ∃ z, z = drwN (nextG (G1 123)) := ⟨_, rfl⟩
          have hdd : dd < 96 := by rw [hddE]; exact (drwN_ok _).1
          have hde : drwn (nextG (G1 123)) = nI dd := by rw [hddE]; exact (drwN_ok _).2
          rw [← hG20] at hde
          refine wp_aload_n dX10_fairs_58 rfl 0 rfl ?_
          refine wp_getL fX10_269 rfl (rfl) (by decide) dX10_fairs_59 ?_
          refine wp_bipush (v := 33) dX10_fairs_62 (by decide) ?_
          refine wp_lushr dX10_fairs_64 ?_
          refine wp_ldc2 (v := 96) k_1108 dX10_fairs_65 ?_
          refine wp_lrem dX10_fairs_68 (by decide) ?_
          refine wp_l2i dX10_fairs_69 ?_
          refine wp_top (x' := nI dd) (hde) ?_
          refine wp_istore [1, 2, 3, 4, 0] (by decide) rfl rfl rfl dX10_fairs_70 ?_
          refine wp_aload_n dX10_fairs_72 rfl 0 rfl ?_
          refine wp_iload dX10_fairs_73 4 rfl ?_
          refine wp_bipush (v := 24) dX10_fairs_75 (by decide) ?_
          refine wp_idiv dX10_fairs_77 (by decide) ?_
          refine wp_top (x' := nI (dd / 24)) (ix_div (a := dd) (b := 24) rfl rfl (by omega) (by decide) (by decide)) ?_
          refine wp_callP (e := if isIn (nI (dd / 24)) (nI (qB Q).1.2.1) = 0 then 1 else 0) (mm_siteV (av := [.int (nI (dd / 24))]) hC lX10_183 (rfl) (by decide) ⟨_, rfl, rfl⟩ rfl rfl (Nat.le_of_ble_eq_true rfl) dX10_fairs_78) (c_X10_noThrower l (k + 1) _ _ _ _ _ (qB Q) hM hw) (by omega) (by decide) ?_
          refine wp_if_ne 108 dX10_fairs_81 (by decide) (fun c3 => ?_) (fun c3 => ?_)
          · rw [ite01, Classical.not_not] at c3
            have hlt : ¬ dd / 24 < (qB Q).1.2.1 := fun h => absurd c3 (isIn_ok h (by omega))
            have hT2 : isP A1 132 (drawP (qB Q) T dd) := by unfold drawP; rw [if_neg hlt]; exact hT
            obtain ⟨dq, hdq, hdqe⟩ := (dn_draw (x := dd) hw hdT : dn (drawP (qB Q) T dd))
            refine wp_iload_n dX10_fairs_108 rfl 2 rfl ?_
            refine wp_aload_n dX10_fairs_109 rfl 0 rfl ?_
            refine wp_getO (q := 132) fX10_34 hR rfl (rfl) (by decide) (by decide) rfl dX10_fairs_110 ?_
            refine wp_bipush (v := 12) dX10_fairs_113 (by decide) ?_
            refine wp_iald 12 (rfl) (rfl) (by decide) ((show 12 < 15 from by omega)) dX10_fairs_115 ?_
            refine wp_top (x' := nI dq) ((hT2 12 (by decide)).trans hdqe) ?_
            refine wp_callP (e := nI (bc dq)) (mm_siteS (av := [.int (nI dq)]) hC lX10_228 rfl rfl (Nat.le_of_ble_eq_true rfl) dX10_fairs_116) (c_X10_many l (k + 2) _ _ _ _ dq hdq) (by omega) (by decide) ?_
            refine wp_iadd dX10_fairs_119 ?_
            refine wp_istore_n [1, 2, 0, 4, 5] (by decide) rfl rfl rfl dX10_fairs_120 rfl ?_
            refine wp_iinc (v := nI (i + 1)) 3 rfl (by exact nI_1 i) [1, 2, 3, 0, 5] (by decide) rfl rfl rfl dX10_fairs_121 ?_
            refine wp_goto 37 dX10_fairs_124 (by decide) ?_
            refine wp_lv [0, 1, 2, 3] rfl ?_
            exact ih_lp (i + 1) _ (drawP (qB Q) T dd) F1 A1 G2 (by omega) (by rw [hv, show m - i = m - (i + 1) + 1 by omega, fairsP_s, stF_eq hG20 hddE, hdqe, manyP_nI hdq]) hT2 (dn_draw hw hdT) (draw_3 hw hkT) hs hM (fun r hr => by rw [hG2, va_up_ne _ _ hr]; exact hGr r hr) (by omega)
          · rw [ite01] at c3
            have hlt : dd / 24 < (qB Q).1.2.1 := by rcases Nat.lt_or_ge (dd / 24) (qB Q).1.2.1 with h | h; exact h; exact absurd (by rw [isIn_nI (by omega) (by omega), if_neg (by omega)]) c3
            refine wp_aload_n dX10_fairs_84 rfl 0 rfl ?_
            refine wp_aload_n dX10_fairs_85 rfl 0 rfl ?_
            refine wp_getO (q := 132) fX10_34 hR rfl (rfl) (by decide) (by decide) rfl dX10_fairs_86 ?_
            refine wp_iload dX10_fairs_89 4 rfl ?_
            refine wp_bipush (v := 24) dX10_fairs_91 (by decide) ?_
            refine wp_idiv dX10_fairs_93 (by decide) ?_
            refine wp_top (x' := nI (dd / 24)) (ix_div (a := dd) (b := 24) rfl rfl (by omega) (by decide) (by decide)) ?_
            refine wp_iload dX10_fairs_94 4 rfl ?_
            refine wp_bipush (v := 24) dX10_fairs_96 (by decide) ?_
            refine wp_irem dX10_fairs_98 (by decide) ?_
            refine wp_top (x' := nI (dd % 24)) (ix_rem (a := dd) (b := 24) rfl rfl (by omega) (by decide) (by decide)) ?_
            refine wp_iconst (v := 3) dX10_fairs_99 (by decide) ?_
            refine wp_idiv dX10_fairs_100 (by decide) ?_
            refine wp_top (x' := nI (dd % 24 / 3)) (ix_div (a := dd % 24) (b := 3) rfl rfl (by omega) (by decide) (by decide)) ?_
            refine wp_iload dX10_fairs_101 4 rfl ?_
            refine wp_iconst (v := 3) dX10_fairs_103 (by decide) ?_
            refine wp_irem dX10_fairs_104 (by decide) ?_
            refine wp_top (x' := nI (dd % 3)) (ix_rem (a := dd) (b := 3) rfl rfl (by omega) (by decide) (by decide)) ?_
            refine wp_callV (mm_siteV (av := [.ref 132, .int (nI (dd / 24)), .int (nI (dd % 24 / 3)), .int (nI (dd % 3))]) hC lX10_195 (rfl) (by decide) ⟨_, rfl, rfl⟩ rfl rfl (Nat.le_of_ble_eq_true rfl) dX10_fairs_105) (c_X10_goThrow l k _ _ _ _ 132 (dd / 24) (nI (dd % 24 / 3)) (nI (dd % 3)) T (qB Q) hR (Or.inr (Or.inl rfl)) hM hw hT hdT hkT hlt) (by omega) (by decide) (by decide) ?_
            rintro F3 A3 _ _ ⟨hT3, -, hf3, rfl, rfl⟩
            have hs := hs.trans (hf3.N (Or.inl rfl))
            have hM := hf3.m (Or.inr (Or.inl rfl)) hM
            have hT2 : isP A3 132 (drawP (qB Q) T dd) := by unfold drawP; rw [if_pos hlt]; exact hT3
            obtain ⟨dq, hdq, hdqe⟩ := (dn_draw (x := dd) hw hdT : dn (drawP (qB Q) T dd))
            refine wp_iload_n dX10_fairs_108 rfl 2 rfl ?_
            refine wp_aload_n dX10_fairs_109 rfl 0 rfl ?_
            refine wp_getO (q := 132) fX10_34 hR rfl (rfl) (by decide) (by decide) rfl dX10_fairs_110 ?_
            refine wp_bipush (v := 12) dX10_fairs_113 (by decide) ?_
            refine wp_iald 12 (rfl) (rfl) (by decide) ((show 12 < 15 from by omega)) dX10_fairs_115 ?_
            refine wp_top (x' := nI dq) ((hT2 12 (by decide)).trans hdqe) ?_
            refine wp_callP (e := nI (bc dq)) (mm_siteS (av := [.int (nI dq)]) hC lX10_228 rfl rfl (Nat.le_of_ble_eq_true rfl) dX10_fairs_116) (c_X10_many l (k + 2) _ _ _ _ dq hdq) (by omega) (by decide) ?_
            refine wp_iadd dX10_fairs_119 ?_
            refine wp_istore_n [1, 2, 0, 4, 5] (by decide) rfl rfl rfl dX10_fairs_120 rfl ?_
            refine wp_iinc (v := nI (i + 1)) 3 rfl (by exact nI_1 i) [1, 2, 3, 0, 5] (by decide) rfl rfl rfl dX10_fairs_121 ?_
            refine wp_goto 37 dX10_fairs_124 (by decide) ?_
            refine wp_lv [0, 1, 2, 3] rfl ?_
            exact ih_lp (i + 1) _ (drawP (qB Q) T dd) F3 A3 G2 (by omega) (by rw [hv, show m - i = m - (i + 1) + 1 by omega, fairsP_s, stF_eq hG20 hddE, hdqe, manyP_nI hdq]) hT2 (dn_draw hw hdT) (draw_3 hw hkT) hs hM (fun r hr => by rw [hG2, va_up_ne _ _ hr]; exact hGr r hr) (by omega)
    exact lp (m + 1) 0 0 (qS Q) F0 A1 G (Nat.zero_le _) (by rw [hg, Nat.sub_zero]) hT1 hwS.1 hwS.2.2.2 hs1 hM1 (fun _ _ => rfl) (by omega)
  · refine wp_bipush (v := (-2)) dX10_fairs_17 (by decide) ?_
    exact wp_iret hC rfl rfl dX10_fairs_19 (pI_ok (by rw [wFairs_no c1]; exact ⟨rfl, hX0, hy0⟩))

