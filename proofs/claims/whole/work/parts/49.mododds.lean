set_option maxRecDepth 100000 in
set_option maxHeartbeats 600000 in
theorem c_X10_odds (l : Launch) (k : Nat) (F A : mmF) (R : mmR) (G : mmG) (x pl xn y z u : Int32) (Q : QV) (hX : RepM F A R G Q) (hwf : wfQ Q) : Meets l hX10_odds (k + 3) 144 144 [.ref 123, .int x, .int pl, .int xn, .int y, .int z, .int u] F A R G (pI (fun v F1 A1 R1 G1 => v = wOdds Q x pl xn y z u ∧ RepM F1 A1 R1 G1 Q ∧ frY F A R G F1 A1 R1 G1)) := by
  refine mm_start rfl (Nat.le_of_ble_eq_true rfl) (fun X hC => ?_)
  show WP hX10_odds X 144 0 [(0, .ref 123), (1, .int x), (2, .int pl), (3, .int xn), (4, .int y), (5, .int z), (6, .int u)] [] F A R G
  obtain ⟨hw60, hw, hwS, hwA, hwE, hwK⟩ := id hwf
  have hw1 := hw.1
  obtain ⟨k0, hk0⟩ : ∃ k0, k0 = k := ⟨_, rfl⟩
  refine wp_aload_n dX10_odds_0 rfl 0 rfl ?_
  refine wp_iconst (v := 0) dX10_odds_1 (by decide) ?_
  refine wp_putI fX10_71 fn_10_0 rfl (rfl) (by decide) dX10_odds_2 ?_
  obtain ⟨F0, hF0⟩ : ∃ z, z = u2 F 123 0 0 := ⟨_, rfl⟩
  rw [← hF0]
  have hs0 : scN F A F0 A := by rw [hF0]; exact scN.F (by decide)
  obtain ⟨hX0, hy0⟩ := hX.scr hs0
  obtain ⟨hR, ⟨hn, ht⟩, hM, hP, ⟨ha, hac⟩, ⟨he, hes⟩, hk, hg⟩ := id hX0
  refine wp_aload_n dX10_odds_5 rfl 0 rfl ?_
  refine wp_iload_n dX10_odds_6 rfl 1 rfl ?_
  refine wp_callP (e := if isIn x (nI (qB Q).1.2.1) = 0 then 1 else 0) (mm_siteV (av := [.int x]) hC lX10_183 (rfl) (by decide) ⟨_, rfl, rfl⟩ rfl rfl (Nat.le_of_ble_eq_true rfl) dX10_odds_7) (c_X10_noThrower l (k0 + 1) _ _ _ _ _ (qB Q) hM hw) (by omega) (by decide) ?_
  refine wp_if_ne 22 dX10_odds_10 (by decide) (fun c1 => ?_) (fun c1 => ?_)
  · rw [ite01, Classical.not_not] at c1
    refine wp_iconst (v := (-1)) dX10_odds_22 (by decide) ?_
    exact wp_iret hC rfl rfl dX10_odds_23 (pI_ok ⟨by unfold wOdds; (first | rw [if_pos c1] | rw [if_neg c1, if_pos c2]), hX0, hy0⟩)
  · rw [ite01] at c1
    obtain ⟨t, htn, rfl⟩ := isIn_nat (by omega) c1
    refine wp_aload_n dX10_odds_13 rfl 0 rfl ?_
    refine wp_iload dX10_odds_14 4 rfl ?_
    refine wp_callP (e := if isIn y (nI (qB Q).1.1) = 0 then 1 else 0) (mm_siteV (av := [.int y]) hC lX10_179 (rfl) (by decide) ⟨_, rfl, rfl⟩ rfl rfl (Nat.le_of_ble_eq_true rfl) dX10_odds_16) (c_X10_noHusk l (k0 + 1) _ _ _ _ _ (qB Q) hM hw) (by omega) (by decide) ?_
    refine wp_if_eq 24 dX10_odds_19 (by decide) (fun c2 => ?_) (fun c2 => ?_)
    · rw [ite01] at c2
      obtain ⟨h, hh, rfl⟩ := isIn_nat (by omega) c2
      refine wp_iload_n dX10_odds_24 rfl 2 rfl ?_
      refine wp_i2l dX10_odds_25 ?_
      refine wp_lconst (v := 0) dX10_odds_26 rfl ?_
      refine wp_topL (x' := (0 : Int32).toInt64) (by decide) ?_
      refine wp_ldc2 (v := 7) k_889 dX10_odds_27 ?_
      refine wp_topL (x' := (7 : Int32).toInt64) (by decide) ?_
      refine wp_callP (e := inP pl 0 7) (mm_siteS (av := [.long pl.toInt64, .long ((0 : Int32).toInt64), .long ((7 : Int32).toInt64)]) hC lX10_78 rfl rfl (Nat.le_of_ble_eq_true rfl) dX10_odds_30) (c_X10_in l (k0 + 2) _ _ _ _ pl 0 7) (by omega) (by decide) ?_
      refine wp_if_eq 61 dX10_odds_33 (by decide) (fun c3 => ?_) (fun c3 => ?_)
      · rw [in8] at c3
        refine wp_bipush (v := (-2)) dX10_odds_61 (by decide) ?_
        exact wp_iret hC rfl rfl dX10_odds_63 (pI_ok ⟨by rw [wOdds_no c1 c2 (Or.inl c3)], hX0, hy0⟩)
      · rw [in8] at c3
        refine wp_iload_n dX10_odds_36 rfl 3 rfl ?_
        refine wp_i2l dX10_odds_37 ?_
        refine wp_lconst (v := 1) dX10_odds_38 rfl ?_
        refine wp_topL (x' := (1 : Int32).toInt64) (by decide) ?_
        refine wp_ldc2 (v := 4) k_1049 dX10_odds_39 ?_
        refine wp_topL (x' := (4 : Int32).toInt64) (by decide) ?_
        refine wp_callP (e := inP xn 1 4) (mm_siteS (av := [.long xn.toInt64, .long ((1 : Int32).toInt64), .long ((4 : Int32).toInt64)]) hC lX10_78 rfl rfl (Nat.le_of_ble_eq_true rfl) dX10_odds_42) (c_X10_in l (k0 + 2) _ _ _ _ xn 1 4) (by omega) (by decide) ?_
        refine wp_if_eq 61 dX10_odds_45 (by decide) (fun c4 => ?_) (fun c4 => ?_)
        · refine wp_bipush (v := (-2)) dX10_odds_61 (by decide) ?_
          exact wp_iret hC rfl rfl dX10_odds_63 (pI_ok ⟨by rw [wOdds_no c1 c2 (Or.inr (Or.inl c4))], hX0, hy0⟩)
        · refine wp_iload dX10_odds_48 5 rfl ?_
          refine wp_i2l dX10_odds_50 ?_
          refine wp_lconst (v := 0) dX10_odds_51 rfl ?_
          refine wp_topL (x' := (0 : Int32).toInt64) (by decide) ?_
          refine wp_ldc2 (v := 10) k_1096 dX10_odds_52 ?_
          refine wp_topL (x' := (10 : Int32).toInt64) (by decide) ?_
          refine wp_callP (e := inP z 0 10) (mm_siteS (av := [.long z.toInt64, .long ((0 : Int32).toInt64), .long ((10 : Int32).toInt64)]) hC lX10_78 rfl rfl (Nat.le_of_ble_eq_true rfl) dX10_odds_55) (c_X10_in l (k0 + 2) _ _ _ _ z 0 10) (by omega) (by decide) ?_
          refine wp_if_ne 64 dX10_odds_58 (by decide) (fun c5 => ?_) (fun c5 => ?_)
          · obtain ⟨n, hn31, rfl⟩ := nI_of (x := xn) (fun h => (inP_1 c4).1 (Int32.lt_trans h (by decide)))
            have hn1 : 1 ≤ n := by have h := mt (nI_ltI (b := 1) hn31 (by decide)).mpr (inP_1 c4).1; omega
            have hn4 : n ≤ 4 := by have h := mt (nI_ltI (a := 4) (by decide) hn31).mpr (inP_1 c4).2; omega
            obtain ⟨xx, hxx, rfl⟩ := nI_of2 (x := z) (n := 10) (M := 10) rfl (inP_1 c5).1 (Int32.not_lt.mp (inP_1 c5).2)
            obtain ⟨MM, hMM⟩ : ∃ MM, MM = 3 ^ n := ⟨_, rfl⟩
            have hM81 : MM ≤ 81 := by rw [hMM]; exact (Nat.pow_le_pow_right (by decide) hn4 : 3 ^ n ≤ 3 ^ 4)
            refine wp_iconst (v := 0) dX10_odds_64 (by decide) ?_
            refine wp_istore [1, 2, 3, 4, 5, 6, 7, 0] (by decide) rfl rfl rfl dX10_odds_65 ?_
            refine wp_iconst (v := 0) dX10_odds_67 (by decide) ?_
            refine wp_istore [1, 2, 3, 4, 5, 6, 7, 8, 0] (by decide) rfl rfl rfl dX10_odds_68 ?_
            have lr : ∀ (mr : Nat) (row : Nat) (q : Int32) (F1 A1 : mmF), (row ≤ MM) → (wayP (qB Q) t pl (nI xx) h n (qS Q) = (List.range' row (MM - row)).foldl (fun q row => q + ctO (qB Q) t pl (nI xx) h n row (qS Q)) q) → (frG 30 30 132 F0 A F1 A1) → MM - row < mr → WP hX10_odds X 144 70 [(0, .ref 123), (1, .int (nI t)), (2, .int pl), (3, .int (nI n)), (4, .int (nI h)), (5, .int (nI xx)), (6, .int u), (7, .int q), (8, .int (nI row))] [] F1 A1 R G := by
              intro mr
              induction mr with
              | zero => intro row q F1 A1 _ _ _ hm; exact absurd hm (Nat.not_lt_zero _)
              | succ mr ih_lr =>
                intro row q F1 A1 hrow hv hf hm_lr
                have hMc := hf.m (by decide) (by decide) (by decide) hM
                have hPr : isP A1 131 (qS Q) := isP_c hP (hf.2.2 131 (by decide) (by decide) (by decide) (by decide))
                refine wp_iload dX10_odds_70 8 rfl ?_
                refine wp_iconst (v := 3) dX10_odds_72 (by decide) ?_
                refine wp_iload_n dX10_odds_73 rfl 3 rfl ?_
                refine wp_callP (e := nI (3 ^ n)) (mm_siteS (av := [.int 3, .int (nI n)]) hC lX10_212 rfl rfl (Nat.le_of_ble_eq_true rfl) dX10_odds_74) (c_X10_power l (k0 + 2) _ _ _ _ 3 n (by omega)) (by omega) (by decide) ?_
                refine wp_top (x' := nI MM) (by rw [hMM]) ?_
                refine wp_icmp_ge 194 dX10_odds_77 (by decide) (fun c6 => ?_) (fun c6 => ?_)
                · replace c6 := (ix_le (a := MM) (b := row) (rfl) (rfl) (by omega) (by omega)).mp c6
                  have hvq : wayP (qB Q) t pl (nI xx) h n (qS Q) = q := by rw [hv, show MM - row = 0 by omega]; exact List.foldl_nil
                  obtain ⟨wy, hwy, hwe⟩ := way_nI (B := qB Q) (t := t) (hk := h) (pl := pl) hxx n (qS Q)
                  rw [hvq] at hwe
                  subst hwe
                  have h20 : 0 < 20 ^ n ∧ 20 ^ n ≤ 160000 := ⟨Nat.pow_pos (by decide), (Nat.pow_le_pow_right (by decide) hn4 : 20 ^ n ≤ 20 ^ 4)⟩
                  refine wp_iload dX10_odds_194 7 rfl ?_
                  refine wp_bipush (v := 20) dX10_odds_196 (by decide) ?_
                  refine wp_iload_n dX10_odds_198 rfl 3 rfl ?_
                  refine wp_callP (e := nI (20 ^ n)) (mm_siteS (av := [.int 20, .int (nI n)]) hC lX10_212 rfl rfl (Nat.le_of_ble_eq_true rfl) dX10_odds_199) (c_X10_power l (k0 + 2) _ _ _ _ 20 n (by omega)) (by omega) (by decide) ?_
                  refine wp_iload dX10_odds_202 6 rfl ?_
                  refine wp_callP (e := frcP (nI wy) (nI (20 ^ n)) u) (mm_siteS (av := [.int (nI wy), .int (nI (20 ^ n)), .int u]) hC lX10_248 rfl rfl (Nat.le_of_ble_eq_true rfl) dX10_odds_204) (c_X10_fraction l (k0 + 1) _ _ _ _ wy (20 ^ n) u (by omega) (by omega) h20.1) (by omega) (by decide) ?_
                  exact wp_iret hC rfl rfl dX10_odds_207 (pI_ok (by unfold wOdds; rw [if_neg c1, if_neg c2, if_neg c3, if_neg (inP_1 c4).1, if_neg (inP_1 c4).2, if_neg (inP_1 c5).1, if_pos (Int32.not_lt.mp (inP_1 c5).2), nI_clamp (by omega), nI_clamp (by omega), nI_clamp (by omega), hvq]; obtain ⟨hX1, hy1⟩ := hX0.scr (hf.N (by decide) (by decide) (by decide)); exact ⟨rfl, hX1, hy0.trans hy1⟩))
                · replace c6 := mt (ix_le (a := MM) (b := row) (rfl) (rfl) (by omega) (by omega)).mpr c6
                  refine wp_aload_n dX10_odds_80 rfl 0 rfl ?_
                  refine wp_getO (q := 131) fX10_31 hR rfl (rfl) (by decide) (by decide) rfl dX10_odds_81 ?_
                  refine wp_aload_n dX10_odds_84 rfl 0 rfl ?_
                  refine wp_getO (q := 132) fX10_34 hR rfl (rfl) (by decide) (by decide) rfl dX10_odds_85 ?_
                  refine wp_bipush (v := 15) dX10_odds_88 (by decide) ?_
                  refine wp_callV (mm_siteS (av := [.ref 131, .ref 132, .int 15]) hC lX10_137 rfl rfl (Nat.le_of_ble_eq_true rfl) dX10_odds_90) (c_X10_copyRow l (k0 + 2) _ _ _ _ 131 132 15 rfl (by decide) (by decide) rfl (by decide) (by decide) (by decide) (by decide)) (by omega) (by decide) (by decide) ?_
                  rintro F1 A6 _ _ ⟨rfl, hc6, hr6, rfl, rfl⟩
                  have hT6 : isP A6 132 (qS Q) := fun k hk => (hc6 k hk).trans (hPr k hk)
                  have hf6 : frG 30 30 132 F0 A F1 A6 := hf.trans (frG.A (Or.inl rfl) hr6)
                  refine wp_iconst (v := 1) dX10_odds_93 (by decide) ?_
                  refine wp_istore [1, 2, 3, 4, 5, 6, 7, 8, 9, 0] (by decide) rfl rfl rfl dX10_odds_94 ?_
                  refine wp_iconst (v := 0) dX10_odds_96 (by decide) ?_
                  refine wp_istore [1, 2, 3, 4, 5, 6, 7, 8, 9, 10, 0] (by decide) rfl rfl rfl dX10_odds_97 ?_
                  have lk : ∀ (mk : Nat) (k : Nat) (by_ : Int32) (T : SV) (F4 A4 : mmF), (k ≤ n) → (ctO (qB Q) t pl (nI xx) h n row (qS Q) = by_ * ctO (qB Q) t pl (nI xx) h (n - k) row T) → (isP A4 132 T) → (dn T) → (∀ h, h < (qB Q).1.1 → bt (T.2.2 3) (nI h) = 0 ∨ (qB Q).2 3 h = 3) → (frG 30 30 132 F0 A F4 A4) → n - k < mk → WP hX10_odds X 144 99 [(0, .ref 123), (1, .int (nI t)), (2, .int pl), (3, .int (nI n)), (4, .int (nI h)), (5, .int (nI xx)), (6, .int u), (7, .int q), (8, .int (nI row)), (9, .int by_), (10, .int (nI k))] [] F4 A4 R G := by
                    intro mk
                    induction mk with
                    | zero => intro k by_ T F4 A4 _ _ _ _ _ _ hm; exact absurd hm (Nat.not_lt_zero _)
                    | succ mk ih_lk =>
                      intro k by_ T F4 A4 hk4 hev hT hdT hkT hf4 hm_lk
                      have hMc := hf4.m (by decide) (by decide) (by decide) hM
                      refine wp_iload dX10_odds_99 10 rfl ?_
                      refine wp_iload_n dX10_odds_101 rfl 3 rfl ?_
                      refine wp_icmp_ge 162 dX10_odds_102 (by decide) (fun c7 => ?_) (fun c7 => ?_)
                      · replace c7 := (ix_le (a := n) (b := k) (rfl) (rfl) (by omega) (by omega)).mp c7
                        refine wp_iload dX10_odds_162 7 rfl ?_
                        refine wp_aload_n dX10_odds_164 rfl 0 rfl ?_
                        refine wp_getO (q := 132) fX10_34 hR rfl (rfl) (by decide) (by decide) rfl dX10_odds_165 ?_
                        refine wp_bipush (v := 12) dX10_odds_168 (by decide) ?_
                        refine wp_iald 12 (rfl) (rfl) (by decide) ((show 12 < 15 from by omega)) dX10_odds_170 ?_
                        refine wp_top (x' := T.2.2 2) (hT 12 (by decide)) ?_
                        refine wp_iload dX10_odds_171 4 rfl ?_
                        refine wp_callP (e := bt (T.2.2 2) (nI h)) (mm_siteS (av := [.int (T.2.2 2), .int (nI h)]) hC lX10_144 rfl rfl (Nat.le_of_ble_eq_true rfl) dX10_odds_173) (c_X10_has l (k0 + 2) _ _ _ _ (T.2.2 2) (nI h)) (by omega) (by decide) ?_
                        refine wp_if_eq 184 dX10_odds_176 (by decide) (fun c8 => ?_) (fun c8 => ?_)
                        · refine wp_iconst (v := 0) dX10_odds_184 (by decide) ?_
                          refine wp_iadd dX10_odds_185 ?_
                          refine wp_istore [1, 2, 3, 4, 5, 6, 7, 0, 9, 10, 11] (by decide) rfl rfl rfl dX10_odds_186 ?_
                          refine wp_iinc (v := nI (row + 1)) 8 rfl (by exact nI_1 row) [1, 2, 3, 4, 5, 6, 7, 8, 0, 10, 11] (by decide) rfl rfl rfl dX10_odds_188 ?_
                          refine wp_goto 70 dX10_odds_191 (by decide) ?_
                          refine wp_lv [0, 1, 2, 3, 4, 5, 6, 7, 8] rfl ?_
                          exact ih_lr (row + 1) (q + 0) F4 A4 (by omega) (by rw [hv, foldl_go (by omega), hev, show n - k = 0 by omega, ctO_0, if_neg (by rw [up_bt]; exact fun hz => hz c8), Int32.mul_zero]) hf4 (by omega)
                        · refine wp_iload dX10_odds_179 9 rfl ?_
                          refine wp_goto 185 dX10_odds_181 (by decide) ?_
                          refine wp_iadd dX10_odds_185 ?_
                          refine wp_istore [1, 2, 3, 4, 5, 6, 7, 0, 9, 10, 11] (by decide) rfl rfl rfl dX10_odds_186 ?_
                          refine wp_iinc (v := nI (row + 1)) 8 rfl (by exact nI_1 row) [1, 2, 3, 4, 5, 6, 7, 8, 0, 10, 11] (by decide) rfl rfl rfl dX10_odds_188 ?_
                          refine wp_goto 70 dX10_odds_191 (by decide) ?_
                          refine wp_lv [0, 1, 2, 3, 4, 5, 6, 7, 8] rfl ?_
                          exact ih_lr (row + 1) (q + by_) F4 A4 (by omega) (by rw [hv, foldl_go (by omega), hev, show n - k = 0 by omega, ctO_0, if_pos (up_bt.mpr c8), Int32.mul_one]) hf4 (by omega)
                      · replace c7 := mt (ix_le (a := n) (b := k) (rfl) (rfl) (by omega) (by omega)).mpr c7
                        refine wp_iload dX10_odds_105 8 rfl ?_
                        refine wp_iconst (v := 3) dX10_odds_107 (by decide) ?_
                        refine wp_iload_n dX10_odds_108 rfl 3 rfl ?_
                        refine wp_iconst (v := 1) dX10_odds_109 (by decide) ?_
                        refine wp_isub dX10_odds_110 ?_
                        refine wp_top (x' := nI (n - 1)) (ix_sub (a := n) (b := 1) rfl rfl (by omega)) ?_
                        refine wp_iload dX10_odds_111 10 rfl ?_
                        refine wp_isub dX10_odds_113 ?_
                        refine wp_top (x' := nI (n - 1 - k)) (ix_sub (a := n - 1) (b := k) rfl rfl (by omega)) ?_
                        refine wp_callP (e := nI (3 ^ (n - 1 - k))) (mm_siteS (av := [.int 3, .int (nI (n - 1 - k))]) hC lX10_212 rfl rfl (Nat.le_of_ble_eq_true rfl) dX10_odds_114) (c_X10_power l (k0 + 2) _ _ _ _ 3 (n - 1 - k) (by omega)) (by omega) (by decide) ?_
                        obtain ⟨pw, hpw⟩ : ∃ pw, pw = 3 ^ (n - 1 - k) := ⟨_, rfl⟩
                        have hpl : 0 < pw ∧ pw ≤ 81 := by rw [hpw]; exact ⟨Nat.pow_pos (by decide), (Nat.pow_le_pow_right (by decide) (by omega) : 3 ^ (n - 1 - k) ≤ 3 ^ 4)⟩
                        rw [← hpw]
                        obtain ⟨d, hdg⟩ : ∃ d, d = row / 3 ^ (n - 1 - k) % 3 := ⟨_, rfl⟩
                        have hd3 : d < 3 := by rw [hdg]; exact Nat.mod_lt _ (by decide)
                        have hrp := Nat.div_le_self row pw
                        refine wp_idiv dX10_odds_117 (nI_ne0 hpl.1 (by omega)) ?_
                        refine wp_top (x' := nI (row / pw)) (ix_div (a := row) (b := pw) rfl rfl (by omega) hpl.1 (by omega)) ?_
                        refine wp_iconst (v := 3) dX10_odds_118 (by decide) ?_
                        refine wp_irem dX10_odds_119 (by decide) ?_
                        refine wp_top (x' := nI d) ((ix_rem (a := row / pw) (b := 3) rfl rfl (by omega) (by decide) (by decide)).trans (by rw [hdg, hpw])) ?_
                        refine wp_istore [1, 2, 3, 4, 5, 6, 7, 8, 9, 10, 11, 0] (by decide) rfl rfl rfl dX10_odds_120 ?_
                        refine wp_aload_n dX10_odds_122 rfl 0 rfl ?_
                        refine wp_aload_n dX10_odds_123 rfl 0 rfl ?_
                        refine wp_getO (q := 132) fX10_34 hR rfl (rfl) (by decide) (by decide) rfl dX10_odds_124 ?_
                        refine wp_iload_n dX10_odds_127 rfl 1 rfl ?_
                        refine wp_iload_n dX10_odds_128 rfl 2 rfl ?_
                        refine wp_iload dX10_odds_129 11 rfl ?_
                        refine wp_callV (mm_siteV (av := [.ref 132, .int (nI t), .int pl, .int (nI d)]) hC lX10_195 (rfl) (by decide) ⟨_, rfl, rfl⟩ rfl rfl (Nat.le_of_ble_eq_true rfl) dX10_odds_131) (c_X10_goThrow l k0 _ _ _ _ 132 t pl (nI d) T (qB Q) hR (Or.inr (Or.inl rfl)) hMc hw hT hdT hkT htn) (by omega) (by decide) (by decide) ?_
                        rintro F3 A3 _ _ ⟨hT3, -, hp3, rfl, rfl⟩
                        have hf3 := hf4.trans (hp3.G 30 30 132)
                        refine wp_iload dX10_odds_134 9 rfl ?_
                        refine wp_iload dX10_odds_136 11 rfl ?_
                        refine wp_if_ne 148 dX10_odds_138 (by decide) (fun c9 => ?_) (fun c9 => ?_)
                        · replace c9 := mt (ix_eq (a := d) (b := 0) (rfl) (rfl) (by omega) (by omega)).mpr c9
                          refine wp_bipush (v := 10) dX10_odds_148 (by decide) ?_
                          refine wp_iload dX10_odds_150 5 rfl ?_
                          refine wp_isub dX10_odds_152 ?_
                          refine wp_imul dX10_odds_153 ?_
                          refine wp_istore [1, 2, 3, 4, 5, 6, 7, 8, 9, 0, 11, 12] (by decide) rfl rfl rfl dX10_odds_154 ?_
                          refine wp_iinc (v := nI (k + 1)) 10 rfl (by exact nI_1 k) [1, 2, 3, 4, 5, 6, 7, 8, 9, 10, 0, 12] (by decide) rfl rfl rfl dX10_odds_156 ?_
                          refine wp_goto 99 dX10_odds_159 (by decide) ?_
                          refine wp_lv [0, 1, 2, 3, 4, 5, 6, 7, 8, 9, 10] rfl ?_
                          exact ih_lk (k + 1) (by_ * (10 - nI xx)) (throwP (qB Q) T t pl (nI d)).1 F3 A3 (by omega) (by rw [hev, show n - k = n - (k + 1) + 1 by omega, ctO_s, show n - (k + 1) = n - 1 - k by omega, ← hdg, wtO, if_neg c9]; exact (Int32.mul_assoc _ _ _).symm) hT3 (dn_throw hw hdT) (throw_3 hw hkT) hf3 (by omega)
                        · replace c9 := (ix_eq (a := d) (b := 0) (rfl) (rfl) (by omega) (by omega)).mp c9
                          refine wp_iconst (v := 2) dX10_odds_141 (by decide) ?_
                          refine wp_iload dX10_odds_142 5 rfl ?_
                          refine wp_imul dX10_odds_144 ?_
                          refine wp_goto 153 dX10_odds_145 (by decide) ?_
                          refine wp_imul dX10_odds_153 ?_
                          refine wp_istore [1, 2, 3, 4, 5, 6, 7, 8, 9, 0, 11, 12] (by decide) rfl rfl rfl dX10_odds_154 ?_
                          refine wp_iinc (v := nI (k + 1)) 10 rfl (by exact nI_1 k) [1, 2, 3, 4, 5, 6, 7, 8, 9, 10, 0, 12] (by decide) rfl rfl rfl dX10_odds_156 ?_
                          refine wp_goto 99 dX10_odds_159 (by decide) ?_
                          refine wp_lv [0, 1, 2, 3, 4, 5, 6, 7, 8, 9, 10] rfl ?_
                          exact ih_lk (k + 1) (by_ * (2 * nI xx)) (throwP (qB Q) T t pl (nI d)).1 F3 A3 (by omega) (by rw [hev, show n - k = n - (k + 1) + 1 by omega, ctO_s, show n - (k + 1) = n - 1 - k by omega, ← hdg, wtO, if_pos c9]; exact (Int32.mul_assoc _ _ _).symm) hT3 (dn_throw hw hdT) (throw_3 hw hkT) hf3 (by omega)
                  exact lk (n + 1) 0 1 (qS Q) F1 A6 (Nat.zero_le _) (by rw [Nat.sub_zero, Int32.one_mul]) hT6 hwS.1 hwS.2.2.2 hf6 (by omega)
            exact lr (MM + 1) 0 0 F0 A (Nat.zero_le _) (by rw [Nat.sub_zero, hMM]; exact (ctO_all _ _).symm) (frG.refl _ _ _ _ _) (by omega)
          · refine wp_bipush (v := (-2)) dX10_odds_61 (by decide) ?_
            exact wp_iret hC rfl rfl dX10_odds_63 (pI_ok ⟨by rw [wOdds_no c1 c2 (Or.inr (Or.inr c5))], hX0, hy0⟩)
    · rw [ite01, Classical.not_not] at c2
      refine wp_iconst (v := (-1)) dX10_odds_22 (by decide) ?_
      exact wp_iret hC rfl rfl dX10_odds_23 (pI_ok ⟨by unfold wOdds; (first | rw [if_pos c1] | rw [if_neg c1, if_pos c2]), hX0, hy0⟩)

