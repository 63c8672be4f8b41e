set_option maxRecDepth 100000 in
set_option maxHeartbeats 600000 in
theorem c_X10_findFewest (l : Launch) (k : Nat) (F A : mmF) (R : mmR) (G : mmG) (h : Nat) (S : SV) (B : BV) (hR : mm_RL R) (hM : isM F A 4 125 B) (hw : wfB B) (hP : isP A 131 S) (hd : dn S) (hkS : ∀ h, h < B.1.1 → bt (S.2.2 3) (nI h) = 0 ∨ B.2 3 h = 3) (hh : h < B.1.1) : Meets l hX10_findFewest (k + 4) 144 144 [.ref 123, .int (nI h)] F A R G (pV (fun F1 A1 R1 G1 => (∀ row : Int32, (if row = 0 then F1 123 33 else F1 123 34) = fewP B S h row 0 4) ∧ frG 33 34 132 F A F1 A1 ∧ R = R1 ∧ G = G1)) := by
  refine mm_start rfl (Nat.le_of_ble_eq_true rfl) (fun X hC => ?_)
  show WP hX10_findFewest X 144 0 [(0, .ref 123), (1, .int (nI h))] [] F A R G
  have hw1 := hw.1
  have hPr := hP
  have hW20 : (B.1.2.1 * B.1.1) ≤ 20 := Nat.le_trans (Nat.mul_le_mul hw1.2.1 hw1.1) (by decide)
  refine wp_aload_n dX10_findFewest_0 rfl 0 rfl ?_
  refine wp_getO (q := 131) fX10_31 hR rfl (rfl) (by decide) (by decide) rfl dX10_findFewest_1 ?_
  refine wp_bipush (v := 12) dX10_findFewest_4 (by decide) ?_
  refine wp_iald 12 (rfl) (rfl) (by decide) ((show 12 < 15 from by omega)) dX10_findFewest_6 ?_
  refine wp_top (x' := S.2.2 2) (hP 12 (by decide)) ?_
  refine wp_iload_n dX10_findFewest_7 rfl 1 rfl ?_
  refine wp_callP (e := bt (S.2.2 2) (nI h)) (mm_siteS (av := [.int (S.2.2 2), .int (nI h)]) hC lX10_144 rfl rfl (Nat.le_of_ble_eq_true rfl) dX10_findFewest_8) (c_X10_has l (k + 3) _ _ _ _ (S.2.2 2) (nI h)) (by omega) (by decide) ?_
  refine wp_istore_n [1, 2, 0] (by decide) rfl rfl rfl dX10_findFewest_11 rfl ?_
  refine wp_aload_n dX10_findFewest_12 rfl 0 rfl ?_
  refine wp_iload_n dX10_findFewest_13 rfl 2 rfl ?_
  refine wp_if_eq 21 dX10_findFewest_14 (by decide) (fun c1 => ?_) (fun c1 => ?_)
  · refine wp_bipush (v := (-9)) dX10_findFewest_21 (by decide) ?_
    refine wp_putI fX10_206 fn_10_33 rfl (rfl) (by decide) dX10_findFewest_23 ?_
    refine wp_aload_n dX10_findFewest_26 rfl 0 rfl ?_
    refine wp_iload_n dX10_findFewest_27 rfl 2 rfl ?_
    refine wp_if_eq 35 dX10_findFewest_28 (by decide) (fun c2 => ?_) (fun c2 => ?_)
    · refine wp_bipush (v := (-9)) dX10_findFewest_35 (by decide) ?_
      refine wp_putI fX10_209 fn_10_34 rfl (rfl) (by decide) dX10_findFewest_37 ?_
      obtain ⟨F1, hF1⟩ : ∃ z, z = u2 (u2 F 123 33 (-9)) 123 34 (-9) := ⟨_, rfl⟩
      rw [← hF1]
      have hfr : frG 33 34 132 F A F1 A := by rw [hF1]; exact (frG.F (Or.inl rfl)).trans (frG.F (Or.inr rfl))
      have hm33 : F1 123 33 = ((-9) : Int32) := by rw [hF1]; simp [u2, va_up]
      have hm34 : F1 123 34 = ((-9) : Int32) := by rw [hF1]; simp [u2, va_up]
      have hMc := hfr.m (by decide) (by decide) (by decide) hM
      refine wp_aload_n dX10_findFewest_40 rfl 0 rfl ?_
      refine wp_getI fX10_82 rfl (rfl) (by decide) dX10_findFewest_41 ?_
      refine wp_top (x' := nI B.1.2.1) (hMc.2.1) ?_
      refine wp_aload_n dX10_findFewest_44 rfl 0 rfl ?_
      refine wp_getI fX10_75 rfl (rfl) (by decide) dX10_findFewest_45 ?_
      refine wp_top (x' := nI B.1.1) (hMc.1) ?_
      refine wp_imul dX10_findFewest_48 ?_
      refine wp_top (x' := nI (B.1.2.1 * B.1.1)) (ix_mul rfl rfl) ?_
      refine wp_istore_n [1, 2, 3, 0] (by decide) rfl rfl rfl dX10_findFewest_49 rfl ?_
      refine wp_iconst (v := 1) dX10_findFewest_50 (by decide) ?_
      refine wp_istore [1, 2, 3, 4, 0] (by decide) rfl rfl rfl dX10_findFewest_51 ?_
      have ln : ∀ (nn : Nat) (n : Nat) (x : Int32) (F2 A2 : mmF), (1 ≤ n ∧ n ≤ 4) → (F2 123 33 = x) → ((x = -9 ∧ F2 123 34 = -9 ∧ ∀ i, i < n → rowP B h i S = -9) ∨ ∃ i, i < n ∧ i ≤ 3 ∧ x = nI i ∧ (∀ j, j < i → rowP B h j S = -9) ∧ ¬ rowP B h i S = -9 ∧ F2 123 34 = rowP B h i S) → (frG 33 34 132 F A F2 A2) → 4 - n < nn → WP hX10_findFewest X 144 53 [(0, .ref 123), (1, .int (nI h)), (2, .int (bt (S.2.2 2) (nI h))), (3, .int (nI (B.1.2.1 * B.1.1))), (4, .int (nI n))] [] F2 A2 R G := by
        intro nn
        induction nn with
        | zero => intro n x F2 A2 _ _ _ _ hm; exact absurd hm (Nat.not_lt_zero _)
        | succ nn ih_ln =>
          intro n x F2 A2 hn hfm hst hfr hm_ln
          have hMc := hfr.m (by decide) (by decide) (by decide) hM
          have hPr : isP A2 131 S := isP_c hP (hfr.2.2 131 (by decide) (by decide) (by decide) (by decide))
          refine wp_iload dX10_findFewest_53 4 rfl ?_
          refine wp_iconst (v := 4) dX10_findFewest_55 (by decide) ?_
          refine wp_icmp_ge 238 dX10_findFewest_56 (by decide) (fun c3 => ?_) (fun c3 => ?_)
          · replace c3 := (ix_le (a := 4) (b := n) (rfl) (rfl) (by omega) (by omega)).mp c3
            exact wp_vret hC rfl dX10_findFewest_238 (pV_ok ⟨fun row => by rcases hst with ⟨h1, h2, h3⟩ | ⟨i, -, h1, h2, h3, h4, h5⟩; (rw [few_no (fun i hi => h3 i (by first | omega | (exact absurd h1 c3))), hfm, h1, h2]; split <;> rfl); (rw [few_ok h3 h1 h4, hfm, h2, h5]), hfr, rfl, rfl⟩)
          · replace c3 := mt (ix_le (a := 4) (b := n) (rfl) (rfl) (by omega) (by omega)).mpr c3
            refine wp_aload_n dX10_findFewest_59 rfl 0 rfl ?_
            refine wp_getI fX10_206 rfl (rfl) (by decide) dX10_findFewest_60 ?_
            refine wp_top (x' := x) (hfm) ?_
            refine wp_bipush (v := (-9)) dX10_findFewest_63 (by decide) ?_
            refine wp_icmp_ne 238 dX10_findFewest_65 (by decide) (fun c4 => ?_) (fun c4 => ?_)
            · exact wp_vret hC rfl dX10_findFewest_238 (pV_ok ⟨fun row => by rcases hst with ⟨h1, h2, h3⟩ | ⟨i, -, h1, h2, h3, h4, h5⟩; (rw [few_no (fun i hi => h3 i (by first | omega | (exact absurd h1 c4))), hfm, h1, h2]; split <;> rfl); (rw [few_ok h3 h1 h4, hfm, h2, h5]), hfr, rfl, rfl⟩)
            · have hno : ∀ i, i < n → rowP B h i S = -9 := by rcases hst with ⟨-, -, h⟩ | ⟨i, hil, -, h, -⟩; exact h; exact absurd (h.symm.trans c4) (nI_ne9 (by omega))
              have hx34 : F2 123 34 = -9 := by rcases hst with ⟨-, h, -⟩ | ⟨i, hil, -, h, -⟩; exact h; exact absurd (h.symm.trans c4) (nI_ne9 (by omega))
              obtain ⟨MM, hMM⟩ : ∃ MM, MM = (B.1.2.1 * B.1.1) ^ n := ⟨_, rfl⟩
              have hML : MM ≤ 8000 := by rw [hMM]; exact Nat.le_trans (Nat.pow_le_pow_left hW20 n) (Nat.le_trans (Nat.pow_le_pow_right (by decide) (by omega : n ≤ 3)) (by decide))
              refine wp_iconst (v := 0) dX10_findFewest_68 (by decide) ?_
              refine wp_istore [1, 2, 3, 4, 5, 0] (by decide) rfl rfl rfl dX10_findFewest_69 ?_
              have lr : ∀ (mr : Nat) (row : Nat) (y : Int32) (F3 A3 : mmF), (row ≤ MM) → (F3 123 33 = y) → ((y = -9 ∧ F3 123 34 = -9 ∧ scan (fun r => evQ B h n r S) 0 MM = scan (fun r => evQ B h n r S) row (MM - row)) ∨ (y = nI n ∧ ¬ rowP B h n S = -9 ∧ F3 123 34 = rowP B h n S)) → (frG 33 34 132 F A F3 A3) → MM - row < mr → WP hX10_findFewest X 144 71 [(0, .ref 123), (1, .int (nI h)), (2, .int (bt (S.2.2 2) (nI h))), (3, .int (nI (B.1.2.1 * B.1.1))), (4, .int (nI n)), (5, .int (nI row))] [] F3 A3 R G := by
                intro mr
                induction mr with
                | zero => intro row y F3 A3 _ _ _ _ hm; exact absurd hm (Nat.not_lt_zero _)
                | succ mr ih_lr =>
                  intro row y F3 A3 hrow hfm3 hst3 hfr3 hm_lr
                  have hMc := hfr3.m (by decide) (by decide) (by decide) hM
                  have hPr : isP A3 131 S := isP_c hP (hfr3.2.2 131 (by decide) (by decide) (by decide) (by decide))
                  refine wp_iload dX10_findFewest_71 5 rfl ?_
                  refine wp_iload_n dX10_findFewest_73 rfl 3 rfl ?_
                  refine wp_iload dX10_findFewest_74 4 rfl ?_
                  refine wp_callP (e := nI ((B.1.2.1 * B.1.1) ^ n)) (mm_siteS (av := [.int (nI (B.1.2.1 * B.1.1)), .int (nI n)]) hC lX10_212 rfl rfl (Nat.le_of_ble_eq_true rfl) dX10_findFewest_76) (c_X10_power l (k + 3) _ _ _ _ (B.1.2.1 * B.1.1) n (by omega)) (by omega) (by decide) ?_
                  refine wp_top (x' := nI MM) (by rw [hMM]) ?_
                  refine wp_icmp_ge 232 dX10_findFewest_79 (by decide) (fun c5 => ?_) (fun c5 => ?_)
                  · replace c5 := (ix_le (a := MM) (b := row) (rfl) (rfl) (by omega) (by omega)).mp c5
                    refine wp_iinc (v := nI (n + 1)) 4 rfl (by exact nI_1 n) [1, 2, 3, 4, 0, 6] (by decide) rfl rfl rfl dX10_findFewest_232 ?_
                    refine wp_goto 53 dX10_findFewest_235 (by decide) ?_
                    refine wp_lv [0, 1, 2, 3, 4] rfl ?_
                    exact ih_ln (n + 1) y F3 A3 (by omega) hfm3 (by rcases hst3 with ⟨h1, h2, h3⟩ | ⟨h1, h2, h3⟩; exact Or.inl ⟨h1, h2, fun i hi => by by_cases e : i = n; (rw [e, ← evQ_row hw hn.1 (by omega), ← hMM, h3, show MM - row = 0 by omega, scan]); exact hno i (by omega)⟩; exact Or.inr ⟨n, by omega, by omega, h1, hno, h2, h3⟩) hfr3 (by omega)
                  · replace c5 := mt (ix_le (a := MM) (b := row) (rfl) (rfl) (by omega) (by omega)).mpr c5
                    have hWp : 0 < (B.1.2.1 * B.1.1) := Nat.pos_of_ne_zero (fun e => by rw [e, Nat.zero_pow (by omega)] at hMM; omega)
                    refine wp_aload_n dX10_findFewest_82 rfl 0 rfl ?_
                    refine wp_getI fX10_206 rfl (rfl) (by decide) dX10_findFewest_83 ?_
                    refine wp_top (x' := y) (hfm3) ?_
                    refine wp_bipush (v := (-9)) dX10_findFewest_86 (by decide) ?_
                    refine wp_icmp_ne 232 dX10_findFewest_88 (by decide) (fun c6 => ?_) (fun c6 => ?_)
                    · refine wp_iinc (v := nI (n + 1)) 4 rfl (by exact nI_1 n) [1, 2, 3, 4, 0, 6] (by decide) rfl rfl rfl dX10_findFewest_232 ?_
                      refine wp_goto 53 dX10_findFewest_235 (by decide) ?_
                      refine wp_lv [0, 1, 2, 3, 4] rfl ?_
                      exact ih_ln (n + 1) y F3 A3 (by omega) hfm3 (by rcases hst3 with ⟨h1, h2, h3⟩ | ⟨h1, h2, h3⟩; exact Or.inl ⟨h1, h2, fun i hi => by by_cases e : i = n; (exact absurd h1 c6); exact hno i (by omega)⟩; exact Or.inr ⟨n, by omega, by omega, h1, hno, h2, h3⟩) hfr3 (by omega)
                    · obtain ⟨hy34, hsc⟩ : F3 123 34 = -9 ∧ scan (fun r => evQ B h n r S) 0 MM = scan (fun r => evQ B h n r S) row (MM - row) := by rcases hst3 with ⟨-, h1, h2⟩ | ⟨h1, -⟩; exact ⟨h1, h2⟩; exact absurd (h1.symm.trans c6) (nI_ne9 (by omega))
                      refine wp_aload_n dX10_findFewest_91 rfl 0 rfl ?_
                      refine wp_getO (q := 131) fX10_31 hR rfl (rfl) (by decide) (by decide) rfl dX10_findFewest_92 ?_
                      refine wp_aload_n dX10_findFewest_95 rfl 0 rfl ?_
                      refine wp_getO (q := 132) fX10_34 hR rfl (rfl) (by decide) (by decide) rfl dX10_findFewest_96 ?_
                      refine wp_bipush (v := 15) dX10_findFewest_99 (by decide) ?_
                      refine wp_callV (mm_siteS (av := [.ref 131, .ref 132, .int 15]) hC lX10_137 rfl rfl (Nat.le_of_ble_eq_true rfl) dX10_findFewest_101) (c_X10_copyRow l (k + 3) _ _ _ _ 131 132 15 rfl (by decide) (by decide) rfl (by decide) (by decide) (by decide) (by decide)) (by omega) (by decide) (by decide) ?_
                      rintro F3 A6 _ _ ⟨rfl, hc6, hr6, rfl, rfl⟩
                      have hT6 : isP A6 132 S := fun k hk => (hc6 k hk).trans (hPr k hk)
                      have hf6 : frG 30 30 132 F3 A3 F3 A6 := frG.A (Or.inl rfl) hr6
                      refine wp_iconst (v := 0) dX10_findFewest_104 (by decide) ?_
                      refine wp_istore [1, 2, 3, 4, 5, 6, 0] (by decide) rfl rfl rfl dX10_findFewest_105 ?_
                      refine wp_iconst (v := 1) dX10_findFewest_107 (by decide) ?_
                      refine wp_istore [1, 2, 3, 4, 5, 6, 7, 0] (by decide) rfl rfl rfl dX10_findFewest_108 ?_
                      refine wp_iload dX10_findFewest_110 4 rfl ?_
                      refine wp_iconst (v := 1) dX10_findFewest_112 (by decide) ?_
                      refine wp_isub dX10_findFewest_113 ?_
                      refine wp_top (x' := km n) (rfl) ?_
                      refine wp_istore [1, 2, 3, 4, 5, 6, 7, 8, 0] (by decide) rfl rfl rfl dX10_findFewest_114 ?_
                      have lk : ∀ (mk : Nat) (m : Nat) (s fg : Int32) (T : SV) (F4 A4 : mmF), (m ≤ n) → ((s = 1 ∧ evQ B h n row S = comb m fg (evQ B h m row T) ∧ (¬ evQ B h m row T = -9 → ¬ evQ B h n row S = -9)) ∨ (s = 0 ∧ evQ B h n row S = -9)) → (isP A4 132 T) → (dn T) → (∀ h, h < B.1.1 → bt (T.2.2 3) (nI h) = 0 ∨ B.2 3 h = 3) → (frG 30 30 132 F3 A3 F4 A4) → m < mk → WP hX10_findFewest X 144 116 [(0, .ref 123), (1, .int (nI h)), (2, .int (bt (S.2.2 2) (nI h))), (3, .int (nI (B.1.2.1 * B.1.1))), (4, .int (nI n)), (5, .int (nI row)), (6, .int fg), (7, .int s), (8, .int (km m))] [] F4 A4 R G := by
                        intro mk
                        induction mk with
                        | zero => intro m s fg T F4 A4 _ _ _ _ _ _ hm; exact absurd hm (Nat.not_lt_zero _)
                        | succ mk ih_lk =>
                          intro m s fg T F4 A4 hm hev hT hdT hkT hf4 hm_lk
                          have hMc := hf4.m (by decide) (by decide) (by decide) hMc
                          refine wp_iload dX10_findFewest_116 8 rfl ?_
                          refine wp_if_lt 195 dX10_findFewest_118 (by decide) (fun c7 => ?_) (fun c7 => ?_)
                          · have hm0 := km_0 (by omega) c7
                            refine wp_iload dX10_findFewest_195 7 rfl ?_
                            refine wp_if_eq 226 dX10_findFewest_197 (by decide) (fun c8 => ?_) (fun c8 => ?_)
                            · refine wp_iinc (v := nI (row + 1)) 5 rfl (by exact nI_1 row) [1, 2, 3, 4, 5, 0, 7, 8, 9] (by decide) rfl rfl rfl dX10_findFewest_226 ?_
                              refine wp_goto 71 dX10_findFewest_229 (by decide) ?_
                              refine wp_lv [0, 1, 2, 3, 4, 5] rfl ?_
                              exact ih_lr (row + 1) y F4 A4 (by omega) ((hf4.2.1 33 (by decide) (by decide) (by decide)).trans hfm3) (Or.inl ⟨c6, (hf4.2.1 34 (by decide) (by decide) (by decide)).trans hy34, by rw [hsc, scan_go (by omega) (show evQ B h n row S = -9 from by rcases hev with ⟨h1, -⟩ | ⟨-, e⟩; (rw [h1] at c8; exact absurd c8 (by decide)); exact e)]⟩) (hfr3.trans (show frG 33 34 132 F3 A3 F4 A4 from ⟨hf4.1, fun j a _ _ => hf4.2.1 j a (by omega) (by omega), hf4.2.2⟩)) (by omega)
                            · have hev0 : evQ B h n row S = comb 0 fg (evQ B h 0 row T) ∧ (¬ evQ B h 0 row T = -9 → ¬ evQ B h n row S = -9) := by rcases hev with ⟨-, e, e2⟩ | ⟨h1, -⟩; (rw [hm0] at e e2; exact ⟨e, e2⟩); exact absurd h1 c8
                              refine wp_aload_n dX10_findFewest_200 rfl 0 rfl ?_
                              refine wp_getO (q := 132) fX10_34 hR rfl (rfl) (by decide) (by decide) rfl dX10_findFewest_201 ?_
                              refine wp_bipush (v := 12) dX10_findFewest_204 (by decide) ?_
                              refine wp_iald 12 (rfl) (rfl) (by decide) ((show 12 < 15 from by omega)) dX10_findFewest_206 ?_
                              refine wp_top (x' := T.2.2 2) (hT 12 (by decide)) ?_
                              refine wp_iload_n dX10_findFewest_207 rfl 1 rfl ?_
                              refine wp_callP (e := bt (T.2.2 2) (nI h)) (mm_siteS (av := [.int (T.2.2 2), .int (nI h)]) hC lX10_144 rfl rfl (Nat.le_of_ble_eq_true rfl) dX10_findFewest_208) (c_X10_has l (k + 3) _ _ _ _ (T.2.2 2) (nI h)) (by omega) (by decide) ?_
                              refine wp_if_eq 226 dX10_findFewest_211 (by decide) (fun c9 => ?_) (fun c9 => ?_)
                              · refine wp_iinc (v := nI (row + 1)) 5 rfl (by exact nI_1 row) [1, 2, 3, 4, 5, 0, 7, 8, 9] (by decide) rfl rfl rfl dX10_findFewest_226 ?_
                                refine wp_goto 71 dX10_findFewest_229 (by decide) ?_
                                refine wp_lv [0, 1, 2, 3, 4, 5] rfl ?_
                                exact ih_lr (row + 1) y F4 A4 (by omega) ((hf4.2.1 33 (by decide) (by decide) (by decide)).trans hfm3) (Or.inl ⟨c6, (hf4.2.1 34 (by decide) (by decide) (by decide)).trans hy34, by rw [hsc, scan_go (by omega) (show evQ B h n row S = -9 from by rw [hev0.1, evQ, if_neg (by rw [up_bt]; exact fun hz => hz c9)]; rfl)]⟩) (hfr3.trans (show frG 33 34 132 F3 A3 F4 A4 from ⟨hf4.1, fun j a _ _ => hf4.2.1 j a (by omega) (by omega), hf4.2.2⟩)) (by omega)
                              · have hfg : evQ B h n row S = fg := by rw [hev0.1, evQ, if_pos (up_bt.mpr c9)]; unfold comb; rw [if_neg (by decide), show mm_hu 0 = 1 from rfl, Int32.mul_one, Int32.add_zero]
                                have hq9 : ¬ evQ B h n row S = -9 := hev0.2 (by rw [evQ, if_pos (up_bt.mpr c9)]; decide)
                                refine wp_aload_n dX10_findFewest_214 rfl 0 rfl ?_
                                refine wp_iload dX10_findFewest_215 4 rfl ?_
                                refine wp_putI fX10_206 fn_10_33 rfl (rfl) (by decide) dX10_findFewest_217 ?_
                                refine wp_aload_n dX10_findFewest_220 rfl 0 rfl ?_
                                refine wp_iload dX10_findFewest_221 6 rfl ?_
                                refine wp_putI fX10_209 fn_10_34 rfl (rfl) (by decide) dX10_findFewest_223 ?_
                                obtain ⟨F6, hF6⟩ : ∃ z, z = u2 (u2 F4 123 33 (nI n)) 123 34 fg := ⟨_, rfl⟩
                                rw [← hF6]
                                have hfm6 : F6 123 33 = nI n := by rw [hF6]; simp [u2, va_up]
                                have hfr6 : frG 33 34 132 F A F6 A4 := hfr3.trans ((show frG 33 34 132 F3 A3 F4 A4 from ⟨hf4.1, fun j a _ _ => hf4.2.1 j a (by omega) (by omega), hf4.2.2⟩).trans (show frG 33 34 132 F4 A4 F6 A4 from by rw [hF6]; exact (frG.F (Or.inl rfl)).trans (frG.F (Or.inr rfl))))
                                have hrw : rowP B h n S = fg := by rw [← evQ_row hw hn.1 (by omega), ← hMM, hsc, scan_at (by omega) hq9, hfg]
                                have hrow34 : F6 123 34 = rowP B h n S := by rw [hrw, hF6]; simp [u2, va_up]
                                have hrow9 : ¬ rowP B h n S = -9 := by rw [hrw, ← hfg]; exact hq9
                                refine wp_iinc (v := nI (row + 1)) 5 rfl (by exact nI_1 row) [1, 2, 3, 4, 5, 0, 7, 8, 9] (by decide) rfl rfl rfl dX10_findFewest_226 ?_
                                refine wp_goto 71 dX10_findFewest_229 (by decide) ?_
                                refine wp_lv [0, 1, 2, 3, 4, 5] rfl ?_
                                exact ih_lr (row + 1) (nI n) F6 A4 (by omega) hfm6 (Or.inr ⟨rfl, hrow9, hrow34⟩) hfr6 (by omega)
                          · obtain ⟨m, rfl⟩ := km_p c7
                            refine wp_iload dX10_findFewest_121 7 rfl ?_
                            refine wp_if_eq 195 dX10_findFewest_123 (by decide) (fun c10 => ?_) (fun c10 => ?_)
                            · refine wp_iload dX10_findFewest_195 7 rfl ?_
                              refine wp_if_eq 226 dX10_findFewest_197 (by decide) (fun c11 => ?_) (fun c11 => ?_)
                              · refine wp_iinc (v := nI (row + 1)) 5 rfl (by exact nI_1 row) [1, 2, 3, 4, 5, 0, 7, 8, 9] (by decide) rfl rfl rfl dX10_findFewest_226 ?_
                                refine wp_goto 71 dX10_findFewest_229 (by decide) ?_
                                refine wp_lv [0, 1, 2, 3, 4, 5] rfl ?_
                                exact ih_lr (row + 1) y F4 A4 (by omega) ((hf4.2.1 33 (by decide) (by decide) (by decide)).trans hfm3) (Or.inl ⟨c6, (hf4.2.1 34 (by decide) (by decide) (by decide)).trans hy34, by rw [hsc, scan_go (by omega) (show evQ B h n row S = -9 from by rcases hev with ⟨h1, -⟩ | ⟨-, e⟩; (rw [h1] at c11; exact absurd c11 (by decide)); exact e)]⟩) (hfr3.trans (show frG 33 34 132 F3 A3 F4 A4 from ⟨hf4.1, fun j a _ _ => hf4.2.1 j a (by omega) (by omega), hf4.2.2⟩)) (by omega)
                              · exact absurd c10 c11
                            · refine wp_iload dX10_findFewest_126 5 rfl ?_
                              refine wp_iload_n dX10_findFewest_128 rfl 3 rfl ?_
                              refine wp_iload dX10_findFewest_129 8 rfl ?_
                              refine wp_top (x' := nI m) (km_s m) ?_
                              refine wp_callP (e := nI ((B.1.2.1 * B.1.1) ^ m)) (mm_siteS (av := [.int (nI (B.1.2.1 * B.1.1)), .int (nI m)]) hC lX10_212 rfl rfl (Nat.le_of_ble_eq_true rfl) dX10_findFewest_131) (c_X10_power l (k + 3) _ _ _ _ (B.1.2.1 * B.1.1) m (by omega)) (by omega) (by decide) ?_
                              obtain ⟨pw, hpw⟩ : ∃ pw, pw = (B.1.2.1 * B.1.1) ^ m := ⟨_, rfl⟩
                              have hpl : 0 < pw ∧ pw ≤ 8000 := by rw [hpw]; exact ⟨Nat.pow_pos hWp, Nat.le_trans (Nat.pow_le_pow_left hW20 m) (Nat.le_trans (Nat.pow_le_pow_right (by decide) (by omega : m ≤ 3)) (by decide))⟩
                              rw [← hpw]
                              obtain ⟨d, hdg⟩ : ∃ d, d = row / (B.1.2.1 * B.1.1) ^ m % (B.1.2.1 * B.1.1) := ⟨_, rfl⟩
                              have hdW : d < (B.1.2.1 * B.1.1) := by rw [hdg]; exact Nat.mod_lt _ hWp
                              have hrp := Nat.div_le_self row pw
                              have hH : 0 < B.1.1 := Nat.pos_of_ne_zero (fun e => by rw [e, Nat.mul_zero] at hWp; exact absurd hWp (Nat.lt_irrefl 0))
                              have hdt : d / B.1.1 < B.1.2.1 := Nat.div_lt_of_lt_mul (Nat.lt_of_lt_of_eq hdW (Nat.mul_comm _ _))
                              have hdh := Nat.mod_lt d hH
                              refine wp_idiv dX10_findFewest_134 (nI_ne0 (by omega) (by omega)) ?_
                              refine wp_top (x' := nI (row / pw)) (ix_div (a := row) (b := pw) rfl rfl (by omega) (by omega) (by omega)) ?_
                              refine wp_iload_n dX10_findFewest_135 rfl 3 rfl ?_
                              refine wp_irem dX10_findFewest_136 (nI_ne0 hWp (by omega)) ?_
                              refine wp_top (x' := nI d) ((ix_rem (a := row / pw) (b := B.1.2.1 * B.1.1) rfl rfl (by omega) hWp (by omega)).trans (by rw [hdg, hpw])) ?_
                              refine wp_istore [1, 2, 3, 4, 5, 6, 7, 8, 9, 0] (by decide) rfl rfl rfl dX10_findFewest_137 ?_
                              refine wp_bipush (v := 100) dX10_findFewest_139 (by decide) ?_
                              refine wp_iload dX10_findFewest_141 6 rfl ?_
                              refine wp_imul dX10_findFewest_143 ?_
                              refine wp_bipush (v := 10) dX10_findFewest_144 (by decide) ?_
                              refine wp_iload dX10_findFewest_146 9 rfl ?_
                              refine wp_aload_n dX10_findFewest_148 rfl 0 rfl ?_
                              refine wp_getI fX10_75 rfl (rfl) (by decide) dX10_findFewest_149 ?_
                              refine wp_top (x' := nI B.1.1) (hMc.1) ?_
                              refine wp_idiv dX10_findFewest_152 (nI_ne0 hH (by omega)) ?_
                              refine wp_top (x' := nI (d / B.1.1)) (ix_div (a := d) (b := B.1.1) rfl rfl (by omega) hH (by omega)) ?_
                              refine wp_iconst (v := 1) dX10_findFewest_153 (by decide) ?_
                              refine wp_iadd dX10_findFewest_154 ?_
                              refine wp_imul dX10_findFewest_155 ?_
                              refine wp_iadd dX10_findFewest_156 ?_
                              refine wp_iload dX10_findFewest_157 9 rfl ?_
                              refine wp_aload_n dX10_findFewest_159 rfl 0 rfl ?_
                              refine wp_getI fX10_75 rfl (rfl) (by decide) dX10_findFewest_160 ?_
                              refine wp_top (x' := nI B.1.1) (hMc.1) ?_
                              refine wp_irem dX10_findFewest_163 (nI_ne0 hH (by omega)) ?_
                              refine wp_top (x' := nI (d % B.1.1)) (ix_rem (a := d) (b := B.1.1) rfl rfl (by omega) hH (by omega)) ?_
                              refine wp_iadd dX10_findFewest_164 ?_
                              refine wp_iconst (v := 1) dX10_findFewest_165 (by decide) ?_
                              refine wp_iadd dX10_findFewest_166 ?_
                              refine wp_istore [1, 2, 3, 4, 5, 6, 0, 8, 9, 10] (by decide) rfl rfl rfl dX10_findFewest_167 ?_
                              refine wp_aload_n dX10_findFewest_169 rfl 0 rfl ?_
                              refine wp_iload dX10_findFewest_170 9 rfl ?_
                              refine wp_aload_n dX10_findFewest_172 rfl 0 rfl ?_
                              refine wp_getI fX10_75 rfl (rfl) (by decide) dX10_findFewest_173 ?_
                              refine wp_top (x' := nI B.1.1) (hMc.1) ?_
                              refine wp_idiv dX10_findFewest_176 (nI_ne0 hH (by omega)) ?_
                              refine wp_top (x' := nI (d / B.1.1)) (ix_div (a := d) (b := B.1.1) rfl rfl (by omega) hH (by omega)) ?_
                              refine wp_iload dX10_findFewest_177 9 rfl ?_
                              refine wp_aload_n dX10_findFewest_179 rfl 0 rfl ?_
                              refine wp_getI fX10_75 rfl (rfl) (by decide) dX10_findFewest_180 ?_
                              refine wp_top (x' := nI B.1.1) (hMc.1) ?_
                              refine wp_irem dX10_findFewest_183 (nI_ne0 hH (by omega)) ?_
                              refine wp_top (x' := nI (d % B.1.1)) (ix_rem (a := d) (b := B.1.1) rfl rfl (by omega) hH (by omega)) ?_
                              refine wp_callI (mm_siteV (av := [.int (nI (d / B.1.1)), .int (nI (d % B.1.1))]) hC lX10_215 (rfl) (by decide) ⟨_, rfl, rfl⟩ rfl rfl (Nat.le_of_ble_eq_true rfl) dX10_findFewest_184) (c_X10_throwsAt l k _ _ _ _ (d / B.1.1) (d % B.1.1) T B hR hMc hw hT hdT hkT hdt hdh) (by omega) (by decide) ?_
                              rintro _ F5 A5 _ _ ⟨rfl, hT5, hp5, rfl, rfl⟩
                              have hf5 := hf4.trans (hp5.G 30 30 132)
                              by_cases hc : canB B T (d / B.1.1) (d % B.1.1) = 0
                              · rw [thrS, if_pos hc] at hT5
                                refine wp_top (x' := 0) (if_pos hc) ?_
                                refine wp_istore [1, 2, 3, 4, 5, 6, 7, 0, 9, 10] (by decide) rfl rfl rfl dX10_findFewest_187 ?_
                                refine wp_iinc (v := km m) 8 rfl (by exact km_d m) [1, 2, 3, 4, 5, 6, 7, 8, 0, 10] (by decide) rfl rfl rfl dX10_findFewest_189 ?_
                                refine wp_goto 116 dX10_findFewest_192 (by decide) ?_
                                refine wp_lv [0, 1, 2, 3, 4, 5, 6, 7, 8] rfl ?_
                                exact ih_lk m 0 (100 * fg + 10 * (nI (d / B.1.1) + 1) + nI (d % B.1.1) + 1) T F5 A5 (by omega) (by rcases hev with ⟨-, e, e2⟩ | ⟨h1, -⟩; exact Or.inr ⟨rfl, by rw [e, evQ, ← hdg]; exact comb_no hc⟩; exact absurd h1 c10) hT5 hdT hkT hf5 (by omega)
                              · rw [thrS, if_neg hc] at hT5
                                refine wp_top (x' := 1) (if_neg hc) ?_
                                refine wp_istore [1, 2, 3, 4, 5, 6, 7, 0, 9, 10] (by decide) rfl rfl rfl dX10_findFewest_187 ?_
                                refine wp_iinc (v := km m) 8 rfl (by exact km_d m) [1, 2, 3, 4, 5, 6, 7, 8, 0, 10] (by decide) rfl rfl rfl dX10_findFewest_189 ?_
                                refine wp_goto 116 dX10_findFewest_192 (by decide) ?_
                                refine wp_lv [0, 1, 2, 3, 4, 5, 6, 7, 8] rfl ?_
                                exact ih_lk m 1 (100 * fg + 10 * (nI (d / B.1.1) + 1) + nI (d % B.1.1) + 1) (strikeP B T (d / B.1.1) (d % B.1.1)).1 F5 A5 (by omega) (by rcases hev with ⟨-, e, e2⟩ | ⟨h1, -⟩; exact Or.inl ⟨rfl, by rw [e, evQ, ← hdg]; exact comb_go (by omega) (by omega) (by omega) (fun S => evQ_or hw m (by omega) row S hWp) hc, fun h9 => e2 (by rw [evQ, ← hdg]; exact (rowS_val (by omega) (by omega) (by omega) (fun S => evQ_or hw m (by omega) row S hWp) hc h9).2)⟩; exact absurd h1 c10) hT5 (dn_strike hw (by omega) hdT) (strike_3 (by omega) hw1.1 hkT) hf5 (by omega)
                      exact lk (n + 1) n 1 0 S F3 A6 (Nat.le_refl _) (Or.inl ⟨rfl, by unfold comb; split; (assumption); (rw [Int32.zero_mul, Int32.zero_add]), fun h => h⟩) hT6 hd hkS hf6 (by omega)
              exact lr (MM + 1) 0 x F2 A2 (Nat.zero_le _) hfm (Or.inl ⟨c4, hx34, rfl⟩) hfr (by omega)
      exact ln (4 + 1) 1 (-9) F1 A (by decide) hm33 (Or.inl ⟨rfl, hm34, fun i hi => by rw [show i = 0 by omega, rowP, if_neg (by rw [up_bt]; exact fun hz => hz c1)]⟩) hfr (by omega)
    · exact absurd c1 c2
  · refine wp_iconst (v := 0) dX10_findFewest_17 (by decide) ?_
    refine wp_goto 23 dX10_findFewest_18 (by decide) ?_
    refine wp_putI fX10_206 fn_10_33 rfl (rfl) (by decide) dX10_findFewest_23 ?_
    refine wp_aload_n dX10_findFewest_26 rfl 0 rfl ?_
    refine wp_iload_n dX10_findFewest_27 rfl 2 rfl ?_
    refine wp_if_eq 35 dX10_findFewest_28 (by decide) (fun c12 => ?_) (fun c12 => ?_)
    · exact absurd c12 c1
    · refine wp_iconst (v := 0) dX10_findFewest_31 (by decide) ?_
      refine wp_goto 37 dX10_findFewest_32 (by decide) ?_
      refine wp_putI fX10_209 fn_10_34 rfl (rfl) (by decide) dX10_findFewest_37 ?_
      obtain ⟨F1, hF1⟩ : ∃ z, z = u2 (u2 F 123 33 0) 123 34 0 := ⟨_, rfl⟩
      rw [← hF1]
      have hfr : frG 33 34 132 F A F1 A := by rw [hF1]; exact (frG.F (Or.inl rfl)).trans (frG.F (Or.inr rfl))
      have hm33 : F1 123 33 = (0 : Int32) := by rw [hF1]; simp [u2, va_up]
      have hm34 : F1 123 34 = (0 : Int32) := by rw [hF1]; simp [u2, va_up]
      have hMc := hfr.m (by decide) (by decide) (by decide) hM
      refine wp_aload_n dX10_findFewest_40 rfl 0 rfl ?_
      refine wp_getI fX10_82 rfl (rfl) (by decide) dX10_findFewest_41 ?_
      refine wp_top (x' := nI B.1.2.1) (hMc.2.1) ?_
      refine wp_aload_n dX10_findFewest_44 rfl 0 rfl ?_
      refine wp_getI fX10_75 rfl (rfl) (by decide) dX10_findFewest_45 ?_
      refine wp_top (x' := nI B.1.1) (hMc.1) ?_
      refine wp_imul dX10_findFewest_48 ?_
      refine wp_top (x' := nI (B.1.2.1 * B.1.1)) (ix_mul rfl rfl) ?_
      refine wp_istore_n [1, 2, 3, 0] (by decide) rfl rfl rfl dX10_findFewest_49 rfl ?_
      refine wp_iconst (v := 1) dX10_findFewest_50 (by decide) ?_
      refine wp_istore [1, 2, 3, 4, 0] (by decide) rfl rfl rfl dX10_findFewest_51 ?_
      refine wp_iload dX10_findFewest_53 4 rfl ?_
      refine wp_iconst (v := 4) dX10_findFewest_55 (by decide) ?_
      refine wp_icmp_ge 238 dX10_findFewest_56 (by decide) (fun c13 => ?_) (fun c13 => ?_)
      · exact absurd c13 (by decide)
      · refine wp_aload_n dX10_findFewest_59 rfl 0 rfl ?_
        refine wp_getI fX10_206 rfl (rfl) (by decide) dX10_findFewest_60 ?_
        refine wp_top (x' := (0 : Int32)) (hm33) ?_
        refine wp_bipush (v := (-9)) dX10_findFewest_63 (by decide) ?_
        refine wp_icmp_ne 238 dX10_findFewest_65 (by decide) (fun c14 => ?_) (fun c14 => ?_)
        · exact wp_vret hC rfl dX10_findFewest_238 (pV_ok ⟨fun row => by rw [few_ok (n := 0) (fun i hi => absurd hi (Nat.not_lt_zero _)) (by decide) (by rw [rowP, if_pos (up_bt.mpr c1)]; decide), hm33, hm34, rowP, if_pos (up_bt.mpr c1)]; split <;> rfl, hfr, rfl, rfl⟩)
        · exact absurd c14 (by decide)

set_option maxRecDepth 100000 in
set_option maxHeartbeats 600000 in
theorem c_X10_fewest (l : Launch) (k : Nat) (F A : mmF) (R : mmR) (G : mmG) (x row : Int32) (Q : QV) (hX : RepM F A R G Q) (hwf : wfQ Q) : Meets l hX10_fewest (k + 5) 144 144 [.ref 123, .int x, .int row] F A R G (pI (fun v F1 A1 R1 G1 => v = wFewest Q x row ∧ RepM F1 A1 R1 G1 Q ∧ frY F A R G F1 A1 R1 G1)) := by
  refine mm_start rfl (Nat.le_of_ble_eq_true rfl) (fun X hC => ?_)
  show WP hX10_fewest X 144 0 [(0, .ref 123), (1, .int x), (2, .int row)] [] F A R G
  obtain ⟨hw60, hw, hwS, hwA, hwE, hwK⟩ := id hwf
  have hw1 := hw.1
  refine wp_aload_n dX10_fewest_0 rfl 0 rfl ?_
  refine wp_iconst (v := 0) dX10_fewest_1 (by decide) ?_
  refine wp_putI fX10_71 fn_10_0 rfl (rfl) (by decide) dX10_fewest_2 ?_
  obtain ⟨F0, hF0⟩ : ∃ z, z = u2 F 123 0 0 := ⟨_, rfl⟩
  rw [← hF0]
  have hs0 : scN F A F0 A := by rw [hF0]; exact scN.F (by decide)
  obtain ⟨hX0, hy0⟩ := hX.scr hs0
  obtain ⟨hR, ⟨hn, ht⟩, hM, hP, ⟨ha, hac⟩, ⟨he, hes⟩, hk, hg⟩ := id hX0
  refine wp_aload_n dX10_fewest_5 rfl 0 rfl ?_
  refine wp_iload_n dX10_fewest_6 rfl 1 rfl ?_
  refine wp_callP (e := if isIn x (nI (qB Q).1.1) = 0 then 1 else 0) (mm_siteV (av := [.int x]) hC lX10_179 (rfl) (by decide) ⟨_, rfl, rfl⟩ rfl rfl (Nat.le_of_ble_eq_true rfl) dX10_fewest_7) (c_X10_noHusk l (k + 3) _ _ _ _ _ (qB Q) hM hw) (by omega) (by decide) ?_
  refine wp_if_eq 15 dX10_fewest_10 (by decide) (fun c1 => ?_) (fun c1 => ?_)
  · rw [ite01] at c1
    obtain ⟨h, hh, rfl⟩ := isIn_nat (by omega) c1
    refine wp_aload_n dX10_fewest_15 rfl 0 rfl ?_
    refine wp_iload_n dX10_fewest_16 rfl 1 rfl ?_
    refine wp_callV (mm_siteV (av := [.int (nI h)]) hC lX10_218 (rfl) (by decide) ⟨_, rfl, rfl⟩ rfl rfl (Nat.le_of_ble_eq_true rfl) dX10_fewest_17) (c_X10_findFewest l k _ _ _ _ h (qS Q) (qB Q) hR hM hw hP hwS.1 hwS.2.2.2 hh) (by omega) (by decide) (by decide) ?_
    rintro F1 A1 _ _ ⟨hq, hf1, rfl, rfl⟩
    refine wp_iload_n dX10_fewest_20 rfl 2 rfl ?_
    refine wp_if_eq 31 dX10_fewest_21 (by decide) (fun c2 => ?_) (fun c2 => ?_)
    · refine wp_aload_n dX10_fewest_31 rfl 0 rfl ?_
      refine wp_getI fX10_206 rfl (rfl) (by decide) dX10_fewest_32 ?_
      exact wp_iret hC rfl rfl dX10_fewest_35 (pI_ok (by unfold wFewest; rw [if_neg c1, nI_clamp (by omega), ← hq row, if_pos c2]; obtain ⟨hX1, hy1⟩ := hX0.scr (hf1.N (by decide) (by decide) (by decide)); exact ⟨rfl, hX1, hy0.trans hy1⟩))
    · refine wp_aload_n dX10_fewest_24 rfl 0 rfl ?_
      refine wp_getI fX10_209 rfl (rfl) (by decide) dX10_fewest_25 ?_
      refine wp_goto 35 dX10_fewest_28 (by decide) ?_
      exact wp_iret hC rfl rfl dX10_fewest_35 (pI_ok (by unfold wFewest; rw [if_neg c1, nI_clamp (by omega), ← hq row, if_neg c2]; obtain ⟨hX1, hy1⟩ := hX0.scr (hf1.N (by decide) (by decide) (by decide)); exact ⟨rfl, hX1, hy0.trans hy1⟩))
  · rw [ite01, Classical.not_not] at c1
    refine wp_iconst (v := (-1)) dX10_fewest_13 (by decide) ?_
    exact wp_iret hC rfl rfl dX10_fewest_14 (pI_ok ⟨by unfold wFewest; rw [if_pos c1], hX0, hy0⟩)

