theorem do_cases {B : BV} {T : SV} {w h : Nat} : (doP B T w h).1 = T ∨ (doP B T w h).1 = payS T ∨ (h < B.1.1 ∧ (doP B T w h).1 = setS T h) ∨ (doP B T w h).1 = nailS T h ∨ (h < B.1.1 ∧ ¬ T.2.2 6 = 0 ∧ (doP B T w h).1 = (strikeP B (T.1, T.2.1, va_up T.2.2 6 (T.2.2 6 - 1)) (w - 1) h).1) := by
  unfold doP
  by_cases a : w = 6
  · rw [if_pos a]
    by_cases b : h = 0
    · rw [if_pos b]; exact Or.inr (Or.inl rfl)
    · rw [if_neg b]; exact Or.inl rfl
  · rw [if_neg a]
    by_cases b : h < B.1.1
    · rw [if_pos b]
      by_cases c : w = 0
      · rw [if_pos c]; exact Or.inr (Or.inr (Or.inl ⟨b, rfl⟩))
      · rw [if_neg c]
        by_cases d : w = 5
        · rw [if_pos d]; exact Or.inr (Or.inr (Or.inr (Or.inl rfl)))
        · rw [if_neg d]
          by_cases e : w - 1 < B.1.2.1
          · rw [if_pos e]
            by_cases f : T.2.2 6 = 0
            · rw [if_pos f]; exact Or.inl rfl
            · rw [if_neg f]
              by_cases g : canB B T (w - 1) h = 0
              · rw [if_pos g]; exact Or.inl rfl
              · rw [if_neg g]; exact Or.inr (Or.inr (Or.inr (Or.inr ⟨b, f, rfl⟩)))
          · rw [if_neg e]; exact Or.inl rfl
    · rw [if_neg b]; exact Or.inl rfl
theorem do_keep {B : BV} {T : SV} {w h : Nat} (hw : wfB B) (hd : dn T) (hk : ∀ h, h < B.1.1 → bt (T.2.2 3) (nI h) = 0 ∨ B.2 3 h = 3) (hp : ∃ n, n ≤ 9 ∧ T.2.2 6 = nI n) : dn (doP B T w h).1 ∧ (∀ j, j < B.1.1 → bt ((doP B T w h).1.2.2 3) (nI j) = 0 ∨ B.2 3 j = 3) ∧ ∃ n, n ≤ 9 ∧ (doP B T w h).1.2.2 6 = nI n := by
  have hw1 := hw.1
  rcases do_cases (B := B) (T := T) (w := w) (h := h) with e | e | ⟨b, e⟩ | e | ⟨b, f, e⟩
  · rw [e]; exact ⟨hd, hk, hp⟩
  · rw [e]
    obtain ⟨n, hn, e2⟩ := hp
    have e3 : ∀ j, j ≠ 6 → (payS T).2.2 j = T.2.2 j := fun j hj => by unfold payS; split <;> simp [va_up, hj]
    refine ⟨by unfold dn; rw [e3 2 (by decide)]; exact hd, by rw [e3 3 (by decide)]; exact hk, ?_⟩
    unfold payS; split
    · show ∃ n, n ≤ 9 ∧ va_up T.2.2 6 (if T.2.2 6 + 3 < 9 then T.2.2 6 + 3 else 9) 6 = nI n
      rw [va_up_self, e2]
      split
      · rename_i hlt
        have h3 : nI n + 3 = nI (n + 3) := nI_add n 3
        rw [h3] at hlt ⊢
        exact ⟨n + 3, by have := (nI_ltI (b := 9) (by omega) (by decide)).mp hlt; omega, rfl⟩
      · exact ⟨9, by omega, rfl⟩
    · exact ⟨n, hn, e2⟩
  · rw [e]
    refine ⟨dn_set hd (by omega), by rw [setS_3]; exact hk, ?_⟩
    rw [show (setS T h).2.2 6 = T.2.2 6 from by unfold setS; split <;> simp [va_up]]; exact hp
  · rw [e]
    have e3 : ∀ j, j ≠ 4 → (nailS T h).2.2 j = T.2.2 j := fun j hj => by unfold nailS; split <;> simp [va_up, hj]
    exact ⟨by unfold dn; rw [e3 2 (by decide)]; exact hd, by rw [e3 3 (by decide)]; exact hk, by rw [e3 6 (by decide)]; exact hp⟩
  · rw [e, strike_dec]
    refine ⟨?_, ?_, ?_⟩
    · unfold dn; rw [up6_j (by decide)]; exact dn_strike hw (by omega) hd
    · rw [up6_j (by decide)]; exact strike_3 (by omega) hw1.1 hk
    · unfold up6
      show ∃ n, n ≤ 9 ∧ va_up (strikeP B T (w - 1) h).1.2.2 6 ((strikeP B T (w - 1) h).1.2.2 6 - 1) 6 = nI n
      rw [va_up_self, strike_j (by decide) (by decide)]
      obtain ⟨n, hn, e2⟩ := hp
      have hn0 : n ≠ 0 := fun z => f (by rw [e2, z]; rfl)
      exact ⟨n - 1, by omega, by rw [e2]; exact ix_sub (b := 1) rfl rfl (by omega)⟩
set_option maxRecDepth 100000 in
set_option maxHeartbeats 600000 in
theorem c_X10_judge (l : Launch) (k : Nat) (F A : mmF) (R : mmR) (G : mmG) (x y : Int32) (Q : QV) (hX : RepM F A R G Q) (hwf : wfQ Q) : Meets l hX10_judge (k + 5) 144 144 [.ref 123, .int x, .int y] F A R G (pI (fun v F1 A1 R1 G1 => v = wJudge Q x y ∧ RepM F1 A1 R1 G1 Q ∧ frY F A R G F1 A1 R1 G1)) := by
  refine mm_start rfl (Nat.le_of_ble_eq_true rfl) (fun X hC => ?_)
  show WP hX10_judge X 144 0 [(0, .ref 123), (1, .int x), (2, .int y)] [] F A R G
  obtain ⟨hw60, hw, hwS, hwA, hwE, hwK⟩ := id hwf
  have hw1 := hw.1
  refine wp_aload_n dX10_judge_0 rfl 0 rfl ?_
  refine wp_iconst (v := 0) dX10_judge_1 (by decide) ?_
  refine wp_putI fX10_71 fn_10_0 rfl (rfl) (by decide) dX10_judge_2 ?_
  obtain ⟨F0, hF0⟩ : ∃ z, z = u2 F 123 0 0 := ⟨_, rfl⟩
  rw [← hF0]
  have hs0 : scN F A F0 A := by rw [hF0]; exact scN.F (by decide)
  obtain ⟨hX0, hy0⟩ := hX.scr hs0
  obtain ⟨hR, ⟨hn, ht⟩, hM, hP, ⟨ha, hac⟩, ⟨he, hes⟩, hk, hg⟩ := id hX0
  refine wp_iload_n dX10_judge_5 rfl 1 rfl ?_
  refine wp_i2l dX10_judge_6 ?_
  refine wp_lconst (v := 1) dX10_judge_7 rfl ?_
  refine wp_topL (x' := (1 : Int32).toInt64) (by decide) ?_
  refine wp_ldc2 (v := 4) k_1049 dX10_judge_8 ?_
  refine wp_topL (x' := (4 : Int32).toInt64) (by decide) ?_
  refine wp_callP (e := inP x 1 4) (mm_siteS (av := [.long x.toInt64, .long ((1 : Int32).toInt64), .long ((4 : Int32).toInt64)]) hC lX10_78 rfl rfl (Nat.le_of_ble_eq_true rfl) dX10_judge_11) (c_X10_in l (k + 4) _ _ _ _ x 1 4) (by omega) (by decide) ?_
  refine wp_if_eq 35 dX10_judge_14 (by decide) (fun c1 => ?_) (fun c1 => ?_)
  · refine wp_bipush (v := (-2)) dX10_judge_35 (by decide) ?_
    exact wp_iret hC rfl rfl dX10_judge_37 (pI_ok ⟨by rw [wJudge_no1 c1], hX0, hy0⟩)
  · obtain ⟨n, hn31, rfl⟩ := nI_of (x := x) (fun h => (inP_1 c1).1 (Int32.lt_trans h (by decide)))
    have hn1 : 1 ≤ n := by have h := mt (nI_ltI (b := 1) hn31 (by decide)).mpr (inP_1 c1).1; omega
    have hn4 : n ≤ 4 := by have h := mt (nI_ltI (a := 4) (by decide) hn31).mpr (inP_1 c1).2; omega
    have hp5 := pw5 (m := n) (by omega)
    refine wp_iload_n dX10_judge_17 rfl 2 rfl ?_
    refine wp_i2l dX10_judge_18 ?_
    refine wp_lconst (v := 0) dX10_judge_19 rfl ?_
    refine wp_topL (x' := (0 : Int32).toInt64) (by decide) ?_
    refine wp_bipush (v := 100) dX10_judge_20 (by decide) ?_
    refine wp_iload_n dX10_judge_22 rfl 1 rfl ?_
    refine wp_callP (e := nI (100 ^ n)) (mm_siteS (av := [.int 100, .int (nI n)]) hC lX10_212 rfl rfl (Nat.le_of_ble_eq_true rfl) dX10_judge_23) (c_X10_power l (k + 4) _ _ _ _ 100 n (by omega)) (by omega) (by decide) ?_
    refine wp_iconst (v := 1) dX10_judge_26 (by decide) ?_
    refine wp_isub dX10_judge_27 ?_
    refine wp_i2l dX10_judge_28 ?_
    refine wp_callP (e := inP y 0 ((nI (100 ^ n)) - 1)) (mm_siteS (av := [.long y.toInt64, .long ((0 : Int32).toInt64), .long (((nI (100 ^ n)) - 1).toInt64)]) hC lX10_78 rfl rfl (Nat.le_of_ble_eq_true rfl) dX10_judge_29) (c_X10_in l (k + 4) _ _ _ _ y 0 ((nI (100 ^ n)) - 1)) (by omega) (by decide) ?_
    refine wp_if_ne 38 dX10_judge_32 (by decide) (fun c2 => ?_) (fun c2 => ?_)
    · rw [in_isIn2 (by omega)] at c2
      obtain ⟨row, hrow, rfl⟩ := isIn_nat (by omega) c2
      refine wp_aload_n dX10_judge_38 rfl 0 rfl ?_
      refine wp_getO (q := 131) fX10_31 hR rfl (rfl) (by decide) (by decide) rfl dX10_judge_39 ?_
      refine wp_aload_n dX10_judge_42 rfl 0 rfl ?_
      refine wp_getO (q := 132) fX10_34 hR rfl (rfl) (by decide) (by decide) rfl dX10_judge_43 ?_
      refine wp_bipush (v := 15) dX10_judge_46 (by decide) ?_
      refine wp_callV (mm_siteS (av := [.ref 131, .ref 132, .int 15]) hC lX10_137 rfl rfl (Nat.le_of_ble_eq_true rfl) dX10_judge_48) (c_X10_copyRow l (k + 4) _ _ _ _ 131 132 15 rfl (by decide) (by decide) rfl (by decide) (by decide) (by decide) (by decide)) (by omega) (by decide) (by decide) ?_
      rintro F0 A6 _ _ ⟨rfl, hc6, hr6, rfl, rfl⟩
      have hT6 : isP A6 132 (qS Q) := fun k hk => (hc6 k hk).trans (hP k hk)
      have hf6 : frG 30 30 132 F0 A F0 A6 := frG.A (Or.inl rfl) hr6
      refine wp_iconst (v := 0) dX10_judge_51 (by decide) ?_
      refine wp_istore_n [1, 2, 3, 0] (by decide) rfl rfl rfl dX10_judge_52 rfl ?_
      have lp : ∀ (nn : Nat) (i : Nat) (T : SV) (F1 A1 : mmF), (i ≤ n) → (judP (qB Q) row n 0 n (qS Q) = judP (qB Q) row n i (n - i) T) → (isP A1 132 T) → (dn T ∧ (∀ h, h < (qB Q).1.1 → bt (T.2.2 3) (nI h) = 0 ∨ (qB Q).2 3 h = 3) ∧ ∃ n, n ≤ 9 ∧ T.2.2 6 = nI n) → (frG 30 30 132 F0 A F1 A1) → n - i < nn → WP hX10_judge X 144 53 [(0, .ref 123), (1, .int (nI n)), (2, .int (nI row)), (3, .int (nI i))] [] F1 A1 R G := by
        intro nn
        induction nn with
        | zero => intro i T F1 A1 _ _ _ _ _ hm; exact absurd hm (Nat.not_lt_zero _)
        | succ nn ih_lp =>
          intro i T F1 A1 hi hv hT hkp hf hm_lp
          have hMc := hf.m (by decide) (by decide) (by decide) hM
          obtain ⟨pw, hpw⟩ : ∃ pw, pw = 100 ^ (n - 1 - i) := ⟨_, rfl⟩
          have hr100 : row / pw % 100 < 100 := Nat.mod_lt _ (by decide)
          have hrp := Nat.div_le_self row pw
          refine wp_iload_n dX10_judge_53 rfl 3 rfl ?_
          refine wp_iload_n dX10_judge_54 rfl 1 rfl ?_
          refine wp_icmp_ge 88 dX10_judge_55 (by decide) (fun c3 => ?_) (fun c3 => ?_)
          · replace c3 := (ix_le (a := n) (b := i) (rfl) (rfl) (by omega) (by omega)).mp c3
            refine wp_bipush (v := (-9)) dX10_judge_88 (by decide) ?_
            exact wp_iret hC rfl rfl dX10_judge_90 (pI_ok (by rw [wJudge_yes hn1 hn4 hrow, hv, show n - i = 0 by omega, judP]; obtain ⟨hX1, hy1⟩ := hX0.scr (hf.N (by decide) (by decide) (by decide)); exact ⟨rfl, hX1, hy0.trans hy1⟩))
          · replace c3 := mt (ix_le (a := n) (b := i) (rfl) (rfl) (by omega) (by omega)).mpr c3
            refine wp_aload_n dX10_judge_58 rfl 0 rfl ?_
            refine wp_iload_n dX10_judge_59 rfl 2 rfl ?_
            refine wp_bipush (v := 100) dX10_judge_60 (by decide) ?_
            refine wp_iload_n dX10_judge_62 rfl 1 rfl ?_
            refine wp_iconst (v := 1) dX10_judge_63 (by decide) ?_
            refine wp_isub dX10_judge_64 ?_
            refine wp_top (x' := nI (n - 1)) (ix_sub (a := n) (b := 1) rfl rfl (by omega)) ?_
            refine wp_iload_n dX10_judge_65 rfl 3 rfl ?_
            refine wp_isub dX10_judge_66 ?_
            refine wp_top (x' := nI (n - 1 - i)) (ix_sub (a := n - 1) (b := i) rfl rfl (by omega)) ?_
            have hpl : 0 < pw ∧ pw ≤ 100000000 := by rw [hpw]; exact pw5 (by omega)
            refine wp_callP (e := nI (100 ^ (n - 1 - i))) (mm_siteS (av := [.int 100, .int (nI (n - 1 - i))]) hC lX10_212 rfl rfl (Nat.le_of_ble_eq_true rfl) dX10_judge_67) (c_X10_power l (k + 4) _ _ _ _ 100 (n - 1 - i) (by omega)) (by omega) (by decide) ?_
            refine wp_top (x' := nI pw) (by rw [hpw]) ?_
            refine wp_idiv dX10_judge_70 (nI_ne0 hpl.1 (by omega)) ?_
            refine wp_top (x' := nI (row / pw)) (ix_div (a := row) (b := pw) rfl rfl (by omega) hpl.1 (by omega)) ?_
            refine wp_bipush (v := 100) dX10_judge_71 (by decide) ?_
            refine wp_irem dX10_judge_73 (by decide) ?_
            refine wp_top (x' := nI (row / pw % 100)) (ix_rem (a := row / pw) (b := 100) rfl rfl (by omega) (by decide) (by decide)) ?_
            refine wp_callI (mm_siteV (av := [.int (nI (row / pw % 100))]) hC lX10_239 (rfl) (by decide) ⟨_, rfl, rfl⟩ rfl rfl (Nat.le_of_ble_eq_true rfl) dX10_judge_74) (c_X10_does l k _ _ _ _ (row / pw % 100) T (qB Q) hR hMc hw hT hkp.1 hkp.2.1 hkp.2.2 hr100) (by omega) (by decide) ?_
            rintro v F2 A2 _ _ ⟨hv2, hT2, hf2, rfl, rfl⟩
            refine wp_if_ne 82 dX10_judge_77 (by decide) (fun c4 => ?_) (fun c4 => ?_)
            · refine wp_iinc (v := nI (i + 1)) 3 rfl (by exact nI_1 i) [1, 2, 3, 0] (by decide) rfl rfl rfl dX10_judge_82 ?_
              refine wp_goto 53 dX10_judge_85 (by decide) ?_
              exact ih_lp (i + 1) (doP (qB Q) T (row / pw % 100 / 10) (row / pw % 100 % 10)).1 F2 A2 (by omega) (by rw [hv, show n - i = n - (i + 1) + 1 by omega, judP, ← hpw, if_neg (fun h => c4 (hv2.trans h))]) (hT2 c4) (do_keep hw hkp.1 hkp.2.1 hkp.2.2) (hf.trans hf2) (by omega)
            · refine wp_iload_n dX10_judge_80 rfl 3 rfl ?_
              exact wp_iret hC rfl rfl dX10_judge_81 (pI_ok (by rw [wJudge_yes hn1 hn4 hrow, hv, show n - i = n - (i + 1) + 1 by omega, judP, ← hpw, if_pos (hv2.symm.trans c4)]; obtain ⟨hX1, hy1⟩ := hX0.scr ((hf.trans hf2).N (by decide) (by decide) (by decide)); exact ⟨rfl, hX1, hy0.trans hy1⟩))
      exact lp (n + 1) 0 (qS Q) F0 A6 (Nat.zero_le _) rfl hT6 ⟨hwS.1, hwS.2.2.2, hwS.2.1⟩ hf6 (by omega)
    · refine wp_bipush (v := (-2)) dX10_judge_35 (by decide) ?_
      exact wp_iret hC rfl rfl dX10_judge_37 (pI_ok ⟨by rw [in_isIn2 (by omega)] at c2; rw [wJudge_no2 hn1 hn4 c2], hX0, hy0⟩)

