theorem bc_le (n : Nat) : bc n ≤ 5 := by unfold bc; omega
theorem isIn_nI {a b : Nat} (ha : a < 2 ^ 31) (hb : b < 2 ^ 31) : isIn (nI a) (nI b) = if a < b then 1 else 0 := by
  unfold isIn
  rw [if_neg (nI_pos ha)]
  by_cases h : a < b
  · rw [if_pos h, if_neg (by rw [nI_leI hb ha]; omega)]
  · rw [if_neg h, if_pos (by rw [nI_leI hb ha]; omega)]
theorem cN_isHusk (l : Launch) (k : Nat) (F A : mmF) (R : mmR) (G : mmG) (b h : Nat) (B : BV) (hb : mm_K b = 1) (hB : isB F A b B) (hw : wfB B) (hh : h < 2 ^ 31) : Meets l hX1_isHusk k 144 144 [.ref b, .int (nI h)] F A R G (pP (if h < B.1.1 then 1 else 0) F A R G) := by
  have := cB_isHusk l k F A R G b (nI h) B hb hB
  rwa [isIn_nI hh (by have := hw.1; omega)] at this
theorem cN_isThrower (l : Launch) (k : Nat) (F A : mmF) (R : mmR) (G : mmG) (b h : Nat) (B : BV) (hb : mm_K b = 1) (hB : isB F A b B) (hw : wfB B) (hh : h < 2 ^ 31) : Meets l hX1_isThrower k 144 144 [.ref b, .int (nI h)] F A R G (pP (if h < B.1.2.1 then 1 else 0) F A R G) := by
  have := cB_isThrower l k F A R G b (nI h) B hb hB
  rwa [isIn_nI hh (by have := hw.1; omega)] at this
theorem ite01 {p : Prop} [Decidable p] : (if p then (1 : Int32) else 0) = 0 ↔ ¬ p := by split <;> simp_all
theorem ite10 {p : Prop} [Decidable p] : (if p then (0 : Int32) else 1) = 0 ↔ p := by split <;> simp_all
theorem pw100 {m : Nat} (h : m < 4) : 0 < 100 ^ m ∧ 100 ^ m ≤ 1000000 := by
  rcases (show m = 0 ∨ m = 1 ∨ m = 2 ∨ m = 3 by omega) with rfl | rfl | rfl | rfl <;> decide
set_option maxRecDepth 100000 in
set_option maxHeartbeats 600000 in
theorem c_X4_fewestNails (l : Launch) (k : Nat) (F A : mmF) (R : mmR) (G : mmG) (b : Nat) (hk : Nat) (S : SV) (B : BV) (hR : mm_RL R) (hb : mm_K b = 1) (hS : isS F A 3 S) (hB : isB F A b B) (hw : wfB B) : Meets l hX4_fewestNails (k + 12) 144 144 [.ref 63, .ref b, .ref 3, .int (nI hk)] F A R G (pI (fun v F1 A1 R1 G1 => v = nailsP B S hk ∧ frI 65 67 F A F1 A1 ∧ R = R1 ∧ G = G1)) := by
  refine mm_start rfl (Nat.le_of_ble_eq_true rfl) (fun X hC => ?_)
  show WP hX4_fewestNails X 144 0 [(0, .ref 63), (1, .ref b), (2, .ref 3), (3, .int (nI hk))] [] F A R G
  have hw1 := hw.1
  have hb2 : 103 ≤ b := by rcases bo_f hb with rfl | rfl <;> decide
  have hS0 := hS
  have hB0 := hB
  obtain ⟨M, hM⟩ : ∃ M, M = 2 ^ B.1.1 := ⟨_, rfl⟩
  have hM32 : M ≤ 32 := by rw [hM]; exact (Nat.pow_le_pow_right (by decide) hw1.1 : 2 ^ B.1.1 ≤ 2 ^ 5)
  refine wp_iconst (v := 1) dX4_fewestNails_0 (by decide) ?_
  refine wp_aload_n dX4_fewestNails_1 rfl 1 rfl ?_
  refine wp_getI fX4_52 rfl (hb) (bo_l0 hb) dX4_fewestNails_2 ?_
  refine wp_top (x' := nI B.1.1) (hB.1.1) ?_
  refine wp_ishl dX4_fewestNails_5 ?_
  refine wp_iconst (v := 1) dX4_fewestNails_6 (by decide) ?_
  refine wp_isub dX4_fewestNails_7 ?_
  refine wp_aload_n dX4_fewestNails_8 rfl 2 rfl ?_
  refine wp_getI fX4_36 rfl (rfl) (by decide) dX4_fewestNails_9 ?_
  refine wp_top (x' := S.2.2 2) (hS.2.2.1) ?_
  refine wp_iconst (v := (-1)) dX4_fewestNails_12 (by decide) ?_
  refine wp_ixor dX4_fewestNails_13 ?_
  refine wp_iand dX4_fewestNails_14 ?_
  refine wp_aload_n dX4_fewestNails_15 rfl 2 rfl ?_
  refine wp_getI fX4_83 rfl (rfl) (by decide) dX4_fewestNails_16 ?_
  refine wp_top (x' := S.2.2 4) (hS.2.2.2.2.1) ?_
  refine wp_iconst (v := (-1)) dX4_fewestNails_19 (by decide) ?_
  refine wp_ixor dX4_fewestNails_20 ?_
  refine wp_iand dX4_fewestNails_21 ?_
  refine wp_top (x' := freeP B S) (rfl) ?_
  refine wp_istore [1, 2, 3, 4, 0] (by decide) rfl rfl rfl dX4_fewestNails_22 ?_
  refine wp_iconst (v := 0) dX4_fewestNails_24 (by decide) ?_
  refine wp_istore [1, 2, 3, 4, 5, 0] (by decide) rfl rfl rfl dX4_fewestNails_25 ?_
  have lp : ∀ (nn : Nat) (mn : Nat) (F1 A1 : mmF), (mn ≤ B.1.1 + 1) → (nailsP B S hk = scan (fun many => scan (nailT B S hk many) 0 (2 ^ B.1.1)) mn (B.1.1 + 1 - mn)) → (frI 65 67 F A F1 A1) → B.1.1 + 1 - mn < nn → WP hX4_fewestNails X 144 27 [(0, .ref 63), (1, .ref b), (2, .ref 3), (3, .int (nI hk)), (4, .int (freeP B S)), (5, .int (nI mn))] [] F1 A1 R G := by
    intro nn
    induction nn with
    | zero => intro mn F1 A1 _ _ _ hm; exact absurd hm (Nat.not_lt_zero _)
    | succ nn ih_lp =>
      intro mn F1 A1 hmn hv hf hm_lp
      have hB := hf.b (by omega) hB0
      refine wp_iload dX4_fewestNails_27 5 rfl ?_
      refine wp_aload_n dX4_fewestNails_29 rfl 1 rfl ?_
      refine wp_getI fX4_52 rfl (hb) (bo_l0 hb) dX4_fewestNails_30 ?_
      refine wp_top (x' := nI B.1.1) (hB.1.1) ?_
      refine wp_icmp_gt 97 dX4_fewestNails_33 (by decide) (fun c1 => ?_) (fun c1 => ?_)
      · replace c1 := (ix_lt (a := B.1.1) (b := mn) (rfl) (rfl) (by omega) (by omega)).mp c1
        refine wp_bipush (v := (-9)) dX4_fewestNails_97 (by decide) ?_
        exact wp_iret hC rfl rfl dX4_fewestNails_99 (pI_ok ⟨by rw [hv, scan_end (by omega)], hf, rfl, rfl⟩)
      · replace c1 := mt (ix_lt (a := B.1.1) (b := mn) (rfl) (rfl) (by omega) (by omega)).mpr c1
        refine wp_iconst (v := 0) dX4_fewestNails_36 (by decide) ?_
        refine wp_istore [1, 2, 3, 4, 5, 6, 0] (by decide) rfl rfl rfl dX4_fewestNails_37 ?_
        have lq : ∀ (mm : Nat) (n : Nat) (F2 A2 : mmF), (n ≤ M) → (nailsP B S hk = if scan (nailT B S hk mn) n (M - n) = -9 then scan (fun many => scan (nailT B S hk many) 0 (2 ^ B.1.1)) (mn + 1) (B.1.1 + 1 - (mn + 1)) else scan (nailT B S hk mn) n (M - n)) → (frI 65 67 F A F2 A2) → M - n < mm → WP hX4_fewestNails X 144 39 [(0, .ref 63), (1, .ref b), (2, .ref 3), (3, .int (nI hk)), (4, .int (freeP B S)), (5, .int (nI mn)), (6, .int (nI n))] [] F2 A2 R G := by
          intro mm
          induction mm with
          | zero => intro n F2 A2 _ _ _ hm; exact absurd hm (Nat.not_lt_zero _)
          | succ mm ih_lq =>
            intro n F2 A2 hn hv2 hf hm_lq
            have hB := hf.b (by omega) hB0
            have hS := hf.s (c := 3) (by decide) hS0
            have hbc := bc_le n
            refine wp_iload dX4_fewestNails_39 6 rfl ?_
            refine wp_iconst (v := 1) dX4_fewestNails_41 (by decide) ?_
            refine wp_aload_n dX4_fewestNails_42 rfl 1 rfl ?_
            refine wp_getI fX4_52 rfl (hb) (bo_l0 hb) dX4_fewestNails_43 ?_
            refine wp_top (x' := nI B.1.1) (hB.1.1) ?_
            refine wp_ishl dX4_fewestNails_46 ?_
            refine wp_top (x' := nI M) ((sh_nI (by omega)).trans (by rw [hM])) ?_
            refine wp_icmp_ge 91 dX4_fewestNails_47 (by decide) (fun c2 => ?_) (fun c2 => ?_)
            · replace c2 := (ix_le (a := M) (b := n) (rfl) (rfl) (by omega) (by omega)).mp c2
              refine wp_iinc (v := nI (mn + 1)) 5 rfl (by exact nI_1 mn) [1, 2, 3, 4, 5, 0, 7] (by decide) rfl rfl rfl dX4_fewestNails_91 ?_
              refine wp_goto 27 dX4_fewestNails_94 (by decide) ?_
              refine wp_lv [0, 1, 2, 3, 4, 5] rfl ?_
              exact ih_lp (mn + 1) F2 A2 (by omega) (by rw [hv2, scan_end (by omega), if_pos rfl]) hf (by omega)
            · replace c2 := mt (ix_le (a := M) (b := n) (rfl) (rfl) (by omega) (by omega)).mpr c2
              refine wp_iload dX4_fewestNails_50 6 rfl ?_
              refine wp_callP (mm_siteS (av := [.int (nI n)]) hC lX4_86 rfl rfl (Nat.le_of_ble_eq_true rfl) dX4_fewestNails_52) (c_J6_bitCount l (k + 11) _ _ _ _ n (by omega)) (by omega) (by decide) ?_
              refine wp_iload dX4_fewestNails_55 5 rfl ?_
              refine wp_icmp_ne 85 dX4_fewestNails_57 (by decide) (fun c3 => ?_) (fun c3 => ?_)
              · replace c3 := mt (ix_eq (a := bc n) (b := mn) (rfl) (rfl) (by omega) (by omega)).mpr c3
                refine wp_iinc (v := nI (n + 1)) 6 rfl (by exact nI_1 n) [1, 2, 3, 4, 5, 6, 0] (by decide) rfl rfl rfl dX4_fewestNails_85 ?_
                refine wp_goto 39 dX4_fewestNails_88 (by decide) ?_
                exact ih_lq (n + 1) F2 A2 (by omega) (by rw [hv2, scan_go (by omega) (by simp only [nailT, *, if_true, if_false, eq_self])]) hf (by omega)
              · replace c3 := (ix_eq (a := bc n) (b := mn) (rfl) (rfl) (by omega) (by omega)).mp c3
                refine wp_iload dX4_fewestNails_60 6 rfl ?_
                refine wp_iload dX4_fewestNails_62 4 rfl ?_
                refine wp_iconst (v := (-1)) dX4_fewestNails_64 (by decide) ?_
                refine wp_ixor dX4_fewestNails_65 ?_
                refine wp_iand dX4_fewestNails_66 ?_
                refine wp_if_ne 85 dX4_fewestNails_67 (by decide) (fun c4 => ?_) (fun c4 => ?_)
                · refine wp_iinc (v := nI (n + 1)) 6 rfl (by exact nI_1 n) [1, 2, 3, 4, 5, 6, 0] (by decide) rfl rfl rfl dX4_fewestNails_85 ?_
                  refine wp_goto 39 dX4_fewestNails_88 (by decide) ?_
                  exact ih_lq (n + 1) F2 A2 (by omega) (by rw [hv2, scan_go (by omega) (by simp only [nailT, *, if_true, if_false, eq_self])]) hf (by omega)
                · refine wp_aload_n dX4_fewestNails_70 rfl 0 rfl ?_
                  refine wp_aload_n dX4_fewestNails_71 rfl 1 rfl ?_
                  refine wp_aload_n dX4_fewestNails_72 rfl 2 rfl ?_
                  refine wp_iload_n dX4_fewestNails_73 rfl 3 rfl ?_
                  refine wp_iload dX4_fewestNails_74 6 rfl ?_
                  refine wp_callI (mm_siteV (av := [.ref b, .ref 3, .int (nI hk), .int (nI n)]) hC lX4_91 (rfl) (by decide) ⟨_, rfl, rfl⟩ rfl rfl (Nat.le_of_ble_eq_true rfl) dX4_fewestNails_76) (c_X4_staysUp l k _ _ _ _ b hk (nI n) S B hR hb hS hB hw) (by omega) (by decide) ?_
                  rintro _ F5 A5 _ _ ⟨rfl, hg5, rfl, rfl⟩
                  have hf := hf.trans hg5
                  refine wp_if_eq 85 dX4_fewestNails_79 (by decide) (fun c5 => ?_) (fun c5 => ?_)
                  · refine wp_iinc (v := nI (n + 1)) 6 rfl (by exact nI_1 n) [1, 2, 3, 4, 5, 6, 0] (by decide) rfl rfl rfl dX4_fewestNails_85 ?_
                    refine wp_goto 39 dX4_fewestNails_88 (by decide) ?_
                    exact ih_lq (n + 1) F5 A5 (by omega) (by rw [hv2, scan_go (by omega) (by simp only [nailT, *, if_true, if_false, eq_self])]) hf (by omega)
                  · have hne : nailT B S hk mn n = nI n := by simp only [nailT, *, if_true, if_false, eq_self]
                    refine wp_iload dX4_fewestNails_82 6 rfl ?_
                    exact wp_iret hC rfl rfl dX4_fewestNails_84 (pI_ok ⟨by rw [hv2, scan_at (by omega) (by rw [hne]; exact nI_ne9 (by omega)), hne, if_neg (nI_ne9 (by omega))], hf, rfl, rfl⟩)
        exact lq (M + 1) 0 F1 A1 (Nat.zero_le _) (by rw [hv, show B.1.1 + 1 - mn = B.1.1 + 1 - (mn + 1) + 1 by omega, scan, Nat.sub_zero, hM]) hf (by omega)
  exact lp ((B.1.1 + 1) + 1) 0 F A (Nat.zero_le _) rfl (frI.refl _ _ F A) (by omega)

set_option maxRecDepth 100000 in
set_option maxHeartbeats 600000 in
theorem c_X4_couldBeDone (l : Launch) (k : Nat) (F A : mmF) (R : mmR) (G : mmG) (b w h : Nat) (S : SV) (B : BV) (hR : mm_RL R) (hb : mm_K b = 1) (hS : isS F A 65 S) (hB : isB F A b B) (hw : wfB B) (hw10 : w < 10) (hh10 : h < 10) : Meets l hX4_couldBeDone (k + 11) 144 144 [.ref b, .ref 65, .int (nI w), .int (nI h)] F A R G (pI (fun v F1 A1 R1 G1 => v = (doP B S w h).2 ∧ isS F1 A1 65 (doP B S w h).1 ∧ fr 65 F A F1 A1 ∧ R = R1 ∧ G = G1)) := by
  refine mm_start rfl (Nat.le_of_ble_eq_true rfl) (fun X hC => ?_)
  show WP hX4_couldBeDone X 144 0 [(0, .ref b), (1, .ref 65), (2, .int (nI w)), (3, .int (nI h))] [] F A R G
  have hw1 := hw.1
  refine wp_iload_n dX4_couldBeDone_0 rfl 2 rfl ?_
  refine wp_bipush (v := 6) dX4_couldBeDone_1 (by decide) ?_
  refine wp_icmp_ne 23 dX4_couldBeDone_3 (by decide) (fun c1 => ?_) (fun c1 => ?_)
  · replace c1 := mt (ix_eq (a := w) (b := 6) (rfl) (rfl) (by omega) (by omega)).mpr c1
    refine wp_aload_n dX4_couldBeDone_23 rfl 0 rfl ?_
    refine wp_iload_n dX4_couldBeDone_24 rfl 3 rfl ?_
    refine wp_callP (e := if h < B.1.1 then 1 else 0) (mm_siteV (av := [.int (nI h)]) hC lX4_102 (hb) (bo_l0 hb) ⟨_, rfl, rfl⟩ rfl rfl (Nat.le_of_ble_eq_true rfl) dX4_couldBeDone_25) (cN_isHusk l (k + 10) _ _ _ _ _ h B hb hB hw (by omega)) (by omega) (by decide) ?_
    refine wp_if_ne 33 dX4_couldBeDone_28 (by decide) (fun c2 => ?_) (fun c2 => ?_)
    · rw [ite01, Classical.not_not] at c2
      have c_h := c2
      refine wp_iload_n dX4_couldBeDone_33 rfl 2 rfl ?_
      refine wp_if_ne 43 dX4_couldBeDone_34 (by decide) (fun c3 => ?_) (fun c3 => ?_)
      · replace c3 := mt (ix_eq (a := w) (b := 0) (rfl) (rfl) (by omega) (by omega)).mpr c3
        refine wp_iload_n dX4_couldBeDone_43 rfl 2 rfl ?_
        refine wp_iconst (v := 5) dX4_couldBeDone_44 (by decide) ?_
        refine wp_icmp_ne 54 dX4_couldBeDone_45 (by decide) (fun c4 => ?_) (fun c4 => ?_)
        · replace c4 := mt (ix_eq (a := w) (b := 5) (rfl) (rfl) (by omega) (by omega)).mpr c4
          refine wp_iload_n dX4_couldBeDone_54 rfl 2 rfl ?_
          refine wp_iconst (v := 1) dX4_couldBeDone_55 (by decide) ?_
          refine wp_isub dX4_couldBeDone_56 ?_
          refine wp_top (x' := nI (w - 1)) (ix_sub (a := w) (b := 1) rfl rfl (by omega)) ?_
          refine wp_istore [1, 2, 3, 4, 0] (by decide) rfl rfl rfl dX4_couldBeDone_57 ?_
          refine wp_aload_n dX4_couldBeDone_59 rfl 0 rfl ?_
          refine wp_iload dX4_couldBeDone_60 4 rfl ?_
          refine wp_callP (e := if w - 1 < B.1.2.1 then 1 else 0) (mm_siteV (av := [.int (nI (w - 1))]) hC lX4_111 (hb) (bo_l0 hb) ⟨_, rfl, rfl⟩ rfl rfl (Nat.le_of_ble_eq_true rfl) dX4_couldBeDone_62) (cN_isThrower l (k + 10) _ _ _ _ _ (w - 1) B hb hB hw (by omega)) (by omega) (by decide) ?_
          refine wp_if_eq 86 dX4_couldBeDone_65 (by decide) (fun c5 => ?_) (fun c5 => ?_)
          · rw [ite01] at c5
            refine wp_iconst (v := 0) dX4_couldBeDone_86 (by decide) ?_
            exact wp_iret hC rfl rfl dX4_couldBeDone_87 (pI_ok (by rw [show doP B S w h = (S, 0) from by unfold doP; simp [*]]; exact ⟨rfl, hS, fr.refl 65 F A, rfl, rfl⟩))
          · rw [ite01, Classical.not_not] at c5
            have ht := c5
            refine wp_aload_n dX4_couldBeDone_68 rfl 1 rfl ?_
            refine wp_getI fX4_114 rfl (rfl) (by decide) dX4_couldBeDone_69 ?_
            refine wp_top (x' := S.2.2 6) (hS.2.2.2.2.2.2) ?_
            refine wp_if_eq 86 dX4_couldBeDone_72 (by decide) (fun c6 => ?_) (fun c6 => ?_)
            · refine wp_iconst (v := 0) dX4_couldBeDone_86 (by decide) ?_
              exact wp_iret hC rfl rfl dX4_couldBeDone_87 (pI_ok (by rw [show doP B S w h = (S, 0) from by unfold doP; simp [*]]; exact ⟨rfl, hS, fr.refl 65 F A, rfl, rfl⟩))
            · refine wp_aload_n dX4_couldBeDone_75 rfl 1 rfl ?_
              refine wp_aload_n dX4_couldBeDone_76 rfl 0 rfl ?_
              refine wp_iload dX4_couldBeDone_77 4 rfl ?_
              refine wp_iload_n dX4_couldBeDone_79 rfl 3 rfl ?_
              refine wp_callP (e := canB B S (w - 1) h) (mm_siteV (av := [.ref b, .int (nI (w - 1)), .int (nI h)]) hC lX4_55 (rfl) (by decide) ⟨_, rfl, rfl⟩ rfl rfl (Nat.le_of_ble_eq_true rfl) dX4_couldBeDone_80) (c_X7_canBeThrownAt l (k + 8) _ _ _ _ _ _ (w - 1) h S B hR rfl hb hS hB hw ht c_h) (by omega) (by decide) ?_
              refine wp_if_ne 88 dX4_couldBeDone_83 (by decide) (fun c7 => ?_) (fun c7 => ?_)
              · refine wp_aload_n dX4_couldBeDone_88 rfl 1 rfl ?_
                refine wp_dup dX4_couldBeDone_89 rfl ?_
                refine wp_getI fX4_114 rfl (rfl) (by decide) dX4_couldBeDone_90 ?_
                refine wp_top (x' := S.2.2 6) (hS.2.2.2.2.2.2) ?_
                refine wp_iconst (v := 1) dX4_couldBeDone_93 (by decide) ?_
                refine wp_isub dX4_couldBeDone_94 ?_
                refine wp_putI fX4_114 fn_7_6 rfl (rfl) (by decide) dX4_couldBeDone_95 ?_
                obtain ⟨F2, hF2⟩ : ∃ z, z = u2 F 65 6 ((S.2.2 6) - 1) := ⟨_, rfl⟩
                rw [← hF2]
                have hg2 : fr 65 F A F2 A := by rw [hF2]; exact ⟨fun r hr => by simp [u2, va_up, hr], fun _ _ _ => rfl⟩
                have hS2 : isS F2 A 65 (S.1, S.2.1, va_up S.2.2 6 (S.2.2 6 - 1)) := by rw [hF2]; exact ⟨hS.1, hS.2.1, by simp [u2, va_up, hS.2.2.1], by simp [u2, va_up, hS.2.2.2.1], by simp [u2, va_up, hS.2.2.2.2.1], by simp [u2, va_up, hS.2.2.2.2.2.1], by simp [u2, va_up]⟩
                have hB2 := hg2.b rfl hb hB
                refine wp_aload_n dX4_couldBeDone_98 rfl 1 rfl ?_
                refine wp_aload_n dX4_couldBeDone_99 rfl 0 rfl ?_
                refine wp_iload dX4_couldBeDone_100 4 rfl ?_
                refine wp_iload_n dX4_couldBeDone_102 rfl 3 rfl ?_
                refine wp_callI (mm_siteV (av := [.ref b, .int (nI (w - 1)), .int (nI h)]) hC lX4_59 (rfl) (by decide) ⟨_, rfl, rfl⟩ rfl rfl (Nat.le_of_ble_eq_true rfl) dX4_couldBeDone_103) (c_X7_strike l k _ _ _ _ _ _ (w - 1) h (S.1, S.2.1, va_up S.2.2 6 (S.2.2 6 - 1)) B hR rfl hb hS2 hB2 hw ht c_h) (by omega) (by decide) ?_
                rintro _ F3 A3 _ _ ⟨rfl, hS3, hg3, rfl, rfl⟩
                refine wp_pop dX4_couldBeDone_106 rfl ?_
                refine wp_iconst (v := 1) dX4_couldBeDone_107 (by decide) ?_
                exact wp_iret hC rfl rfl dX4_couldBeDone_108 (pI_ok (by rw [show doP B S w h = ((strikeP B (S.1, S.2.1, va_up S.2.2 6 (S.2.2 6 - 1)) (w - 1) h).1, 1) from by unfold doP; simp [*]]; exact ⟨rfl, hS3, hg2.trans hg3, rfl, rfl⟩))
              · refine wp_iconst (v := 0) dX4_couldBeDone_86 (by decide) ?_
                exact wp_iret hC rfl rfl dX4_couldBeDone_87 (pI_ok (by rw [show doP B S w h = (S, 0) from by unfold doP; simp [*]]; exact ⟨rfl, hS, fr.refl 65 F A, rfl, rfl⟩))
        · replace c4 := (ix_eq (a := w) (b := 5) (rfl) (rfl) (by omega) (by omega)).mp c4
          refine wp_aload_n dX4_couldBeDone_48 rfl 1 rfl ?_
          refine wp_iload_n dX4_couldBeDone_49 rfl 3 rfl ?_
          refine wp_callI (mm_siteV (av := [.int (nI h)]) hC lX4_108 (rfl) (by decide) ⟨_, rfl, rfl⟩ rfl rfl (Nat.le_of_ble_eq_true rfl) dX4_couldBeDone_50) (c_X7_turnNail l (k + 8) _ _ _ _ _ h S hR rfl hS (by omega)) (by omega) (by decide) ?_
          rintro _ F1 A1 _ _ ⟨rfl, hS1, hg1, rfl, rfl⟩
          exact wp_iret hC rfl (by split <;> rfl) dX4_couldBeDone_53 (pI_ok (by rw [show doP B S w h = (nailS S h, if bt (S.2.2 2) (nI h) = 0 then 1 else 0) from by unfold doP; simp [*]]; exact ⟨rfl, hS1, hg1, rfl, rfl⟩))
      · replace c3 := (ix_eq (a := w) (b := 0) (rfl) (rfl) (by omega) (by omega)).mp c3
        refine wp_aload_n dX4_couldBeDone_37 rfl 1 rfl ?_
        refine wp_iload_n dX4_couldBeDone_38 rfl 3 rfl ?_
        refine wp_callI (mm_siteV (av := [.int (nI h)]) hC lX4_105 (rfl) (by decide) ⟨_, rfl, rfl⟩ rfl rfl (Nat.le_of_ble_eq_true rfl) dX4_couldBeDone_39) (c_X7_setUp l (k + 8) _ _ _ _ _ h S hR rfl hS (by omega)) (by omega) (by decide) ?_
        rintro _ F1 A1 _ _ ⟨rfl, hS1, hg1, rfl, rfl⟩
        exact wp_iret hC rfl (by split <;> rfl) dX4_couldBeDone_42 (pI_ok (by rw [show doP B S w h = (setS S h, if bt (S.2.2 2) (nI h) = 0 then 0 else 1) from by unfold doP; simp [*]]; exact ⟨rfl, hS1, hg1, rfl, rfl⟩))
    · rw [ite01] at c2
      refine wp_iconst (v := 0) dX4_couldBeDone_31 (by decide) ?_
      exact wp_iret hC rfl rfl dX4_couldBeDone_32 (pI_ok (by rw [show doP B S w h = (S, 0) from by unfold doP; simp [*]]; exact ⟨rfl, hS, fr.refl 65 F A, rfl, rfl⟩))
  · replace c1 := (ix_eq (a := w) (b := 6) (rfl) (rfl) (by omega) (by omega)).mp c1
    refine wp_iload_n dX4_couldBeDone_6 rfl 3 rfl ?_
    refine wp_if_ne 21 dX4_couldBeDone_7 (by decide) (fun c8 => ?_) (fun c8 => ?_)
    · replace c8 := mt (ix_eq (a := h) (b := 0) (rfl) (rfl) (by omega) (by omega)).mpr c8
      refine wp_iconst (v := 0) dX4_couldBeDone_21 (by decide) ?_
      exact wp_iret hC rfl rfl dX4_couldBeDone_22 (pI_ok (by rw [show doP B S w h = (S, 0) from by unfold doP; simp [*]]; exact ⟨rfl, hS, fr.refl 65 F A, rfl, rfl⟩))
    · replace c8 := (ix_eq (a := h) (b := 0) (rfl) (rfl) (by omega) (by omega)).mp c8
      refine wp_aload_n dX4_couldBeDone_10 rfl 1 rfl ?_
      refine wp_callI (mm_siteV (av := []) hC lX4_98 (rfl) (by decide) ⟨_, rfl, rfl⟩ rfl rfl (Nat.le_of_ble_eq_true rfl) dX4_couldBeDone_11) (c_X7_takePenny l (k + 9) _ _ _ _ _ S rfl hS) (by omega) (by decide) ?_
      rintro _ F1 A1 _ _ ⟨rfl, hS1, hg1, rfl, rfl⟩
      refine wp_if_eq 21 dX4_couldBeDone_14 (by decide) (fun c9 => ?_) (fun c9 => ?_)
      · rw [ite01] at c9
        refine wp_iconst (v := 0) dX4_couldBeDone_21 (by decide) ?_
        exact wp_iret hC rfl rfl dX4_couldBeDone_22 (pI_ok (by rw [show doP B S w h = (payS S, if S.2.2 6 < 9 then 1 else 0) from by unfold doP; simp [*]]; exact ⟨by simp [*], hS1, hg1, rfl, rfl⟩))
      · rw [ite01, Classical.not_not] at c9
        refine wp_iconst (v := 1) dX4_couldBeDone_17 (by decide) ?_
        refine wp_goto 22 dX4_couldBeDone_18 (by decide) ?_
        exact wp_iret hC rfl rfl dX4_couldBeDone_22 (pI_ok (by rw [show doP B S w h = (payS S, if S.2.2 6 < 9 then 1 else 0) from by unfold doP; simp [*]]; exact ⟨by simp [*], hS1, hg1, rfl, rfl⟩))

set_option maxRecDepth 100000 in
set_option maxHeartbeats 600000 in
theorem c_X4_firstThatCanNotBe (l : Launch) (k : Nat) (F A : mmF) (R : mmR) (G : mmG) (b : Nat) (n row : Nat) (S : SV) (B : BV) (hR : mm_RL R) (hb : mm_K b = 1) (hS : isS F A 3 S) (hB : isB F A b B) (hw : wfB B) (hn : n ≤ 4) (hr : row < 100000000) : Meets l hX4_firstThatCanNotBe (k + 12) 144 144 [.ref 63, .ref b, .ref 3, .int (nI n), .int (nI row)] F A R G (pI (fun v F1 A1 R1 G1 => v = judP B row n 0 n S ∧ frI 65 67 F A F1 A1 ∧ R = R1 ∧ G = G1)) := by
  refine mm_start rfl (Nat.le_of_ble_eq_true rfl) (fun X hC => ?_)
  show WP hX4_firstThatCanNotBe X 144 0 [(0, .ref 63), (1, .ref b), (2, .ref 3), (3, .int (nI n)), (4, .int (nI row))] [] F A R G
  have hw1 := hw.1
  have hb2 : 103 ≤ b := by rcases bo_f hb with rfl | rfl <;> decide
  have hS0 := hS
  have hB0 := hB
  refine wp_aload_n dX4_firstThatCanNotBe_0 rfl 0 rfl ?_
  refine wp_getO (q := 64) fX4_13 hR rfl (rfl) (by decide) (by decide) rfl dX4_firstThatCanNotBe_1 ?_
  refine wp_iconst (v := 0) dX4_firstThatCanNotBe_4 (by decide) ?_
  refine wp_aaldO (q := 65) hR 0 (rfl) (rfl) (by decide) ((show 0 < 5 from by decide)) (rfl) dX4_firstThatCanNotBe_5 ?_
  refine wp_aload_n dX4_firstThatCanNotBe_6 rfl 2 rfl ?_
  refine wp_callV (mm_siteV (av := [.ref 3]) hC lX4_26 (rfl) (by decide) ⟨_, rfl, rfl⟩ rfl rfl (Nat.le_of_ble_eq_true rfl) dX4_firstThatCanNotBe_7) (c_X7_becomeAs l (k + 9) _ _ _ _ _ _ S hR (rfl) (rfl) (by decide) hS) (by omega) (by decide) (by decide) ?_
  rintro F3 A3 _ _ ⟨hS3, hg3, rfl, rfl⟩
  have hB3 := hg3.b (rfl) hb hB
  refine wp_iconst (v := 0) dX4_firstThatCanNotBe_10 (by decide) ?_
  refine wp_istore [1, 2, 3, 4, 5, 0] (by decide) rfl rfl rfl dX4_firstThatCanNotBe_11 ?_
  have lp : ∀ (nn : Nat) (i : Nat) (T : SV) (F1 A1 : mmF), (i ≤ n) → (judP B row n 0 n S = judP B row n i (n - i) T) → (isS F1 A1 65 T) → (frI 65 67 F A F1 A1) → n - i < nn → WP hX4_firstThatCanNotBe X 144 13 [(0, .ref 63), (1, .ref b), (2, .ref 3), (3, .int (nI n)), (4, .int (nI row)), (5, .int (nI i))] [] F1 A1 R G := by
    intro nn
    induction nn with
    | zero => intro i T F1 A1 _ _ _ _ hm; exact absurd hm (Nat.not_lt_zero _)
    | succ nn ih_lp =>
      intro i T F1 A1 hi hv hS hf hm_lp
      have hB := hf.b (by omega) hB0
      obtain ⟨pw, hpw⟩ : ∃ pw, pw = 100 ^ (n - 1 - i) := ⟨_, rfl⟩
      have hp0 := pw100 (m := n - 1 - i) (by omega)
      rw [← hpw] at hp0
      refine wp_iload dX4_firstThatCanNotBe_13 5 rfl ?_
      refine wp_iload_n dX4_firstThatCanNotBe_15 rfl 3 rfl ?_
      refine wp_icmp_ge 68 dX4_firstThatCanNotBe_16 (by decide) (fun c1 => ?_) (fun c1 => ?_)
      · replace c1 := (ix_le (a := n) (b := i) (rfl) (rfl) (by omega) (by omega)).mp c1
        refine wp_bipush (v := (-9)) dX4_firstThatCanNotBe_68 (by decide) ?_
        exact wp_iret hC rfl rfl dX4_firstThatCanNotBe_70 (pI_ok ⟨by rw [hv, show n - i = 0 by omega]; rfl, hf, rfl, rfl⟩)
      · replace c1 := mt (ix_le (a := n) (b := i) (rfl) (rfl) (by omega) (by omega)).mpr c1
        refine wp_iload dX4_firstThatCanNotBe_19 4 rfl ?_
        refine wp_iload_n dX4_firstThatCanNotBe_21 rfl 3 rfl ?_
        refine wp_iconst (v := 1) dX4_firstThatCanNotBe_22 (by decide) ?_
        refine wp_isub dX4_firstThatCanNotBe_23 ?_
        refine wp_iload dX4_firstThatCanNotBe_24 5 rfl ?_
        refine wp_isub dX4_firstThatCanNotBe_26 ?_
        refine wp_top (x' := nI (n - 1 - i)) (ix_sub (a := n - 1) (b := i) (ix_sub (b := 1) rfl rfl (by omega)) rfl (by omega)) ?_
        refine wp_callP (e := mm_hu (n - 1 - i)) (mm_siteSN (av := [.int (nI (n - 1 - i))]) hC lX4_63 rfl rfl (Nat.le_of_ble_eq_true rfl) dX4_firstThatCanNotBe_27) (c_X9_hundreds l (k + 11) _ _ _ _ (n - 1 - i) (by omega)) (by omega) (by decide) ?_
        refine wp_top (x' := nI pw) ((hu_nI (by omega)).trans (by rw [hpw])) ?_
        refine wp_idiv dX4_firstThatCanNotBe_30 (nI_ne0 (by omega) (by omega)) ?_
        refine wp_top (x' := nI (row / pw)) (ix_div (a := row) (b := pw) rfl rfl (by omega) (by omega) (by omega)) ?_
        refine wp_bipush (v := 100) dX4_firstThatCanNotBe_31 (by decide) ?_
        refine wp_irem dX4_firstThatCanNotBe_33 (by decide) ?_
        refine wp_top (x' := nI (row / pw % 100)) (ix_rem (a := row / pw) (b := 100) rfl rfl (by have := Nat.div_le_self row pw; omega) (by decide) (by decide)) ?_
        refine wp_istore [1, 2, 3, 4, 5, 6, 0] (by decide) rfl rfl rfl dX4_firstThatCanNotBe_34 ?_
        refine wp_aload_n dX4_firstThatCanNotBe_36 rfl 1 rfl ?_
        refine wp_aload_n dX4_firstThatCanNotBe_37 rfl 0 rfl ?_
        refine wp_getO (q := 64) fX4_13 hR rfl (rfl) (by decide) (by decide) rfl dX4_firstThatCanNotBe_38 ?_
        refine wp_iconst (v := 0) dX4_firstThatCanNotBe_41 (by decide) ?_
        refine wp_aaldO (q := 65) hR 0 (rfl) (rfl) (by decide) ((show 0 < 5 from by decide)) (rfl) dX4_firstThatCanNotBe_42 ?_
        refine wp_iload dX4_firstThatCanNotBe_43 6 rfl ?_
        refine wp_bipush (v := 10) dX4_firstThatCanNotBe_45 (by decide) ?_
        refine wp_idiv dX4_firstThatCanNotBe_47 (by decide) ?_
        refine wp_top (x' := nI (row / pw % 100 / 10)) (ix_div (a := row / pw % 100) (b := 10) rfl rfl (Nat.lt_trans (Nat.mod_lt _ (by decide)) (by decide)) (by decide) (by decide)) ?_
        refine wp_iload dX4_firstThatCanNotBe_48 6 rfl ?_
        refine wp_bipush (v := 10) dX4_firstThatCanNotBe_50 (by decide) ?_
        refine wp_irem dX4_firstThatCanNotBe_52 (by decide) ?_
        refine wp_top (x' := nI (row / pw % 100 % 10)) (ix_rem (a := row / pw % 100) (b := 10) rfl rfl (Nat.lt_trans (Nat.mod_lt _ (by decide)) (by decide)) (by decide) (by decide)) ?_
        refine wp_callI (mm_siteS (av := [.ref b, .ref 65, .int (nI (row / pw % 100 / 10)), .int (nI (row / pw % 100 % 10))]) hC lX4_95 rfl rfl (Nat.le_of_ble_eq_true rfl) dX4_firstThatCanNotBe_53) (c_X4_couldBeDone l k _ _ _ _ b (row / pw % 100 / 10) (row / pw % 100 % 10) T B hR hb hS hB hw (Nat.div_lt_of_lt_mul (Nat.mod_lt _ (by decide))) (Nat.mod_lt _ (by decide))) (by omega) (by decide) ?_
        rintro _ F5 A5 _ _ ⟨rfl, hS5, hg5, rfl, rfl⟩
        have hf := hf.trans (hg5.I (lo := 65) (hi := 67) (by decide) (by decide))
        refine wp_if_ne 62 dX4_firstThatCanNotBe_56 (by decide) (fun c2 => ?_) (fun c2 => ?_)
        · refine wp_iinc (v := nI (i + 1)) 5 rfl (by exact nI_1 i) [1, 2, 3, 4, 5, 0, 7] (by decide) rfl rfl rfl dX4_firstThatCanNotBe_62 ?_
          refine wp_goto 13 dX4_firstThatCanNotBe_65 (by decide) ?_
          refine wp_lv [0, 1, 2, 3, 4, 5] rfl ?_
          exact ih_lp (i + 1) _ F5 A5 (by omega) (by rw [hv, show n - i = n - (i + 1) + 1 by omega, judP, ← hpw, if_neg c2]) hS5 hf (by omega)
        · refine wp_iload dX4_firstThatCanNotBe_59 5 rfl ?_
          exact wp_iret hC rfl rfl dX4_firstThatCanNotBe_61 (pI_ok ⟨by rw [hv, show n - i = n - (i + 1) + 1 by omega, judP, ← hpw, if_pos c2], hf, rfl, rfl⟩)
  exact lp (n + 1) 0 S F3 A3 (Nat.zero_le _) rfl hS3 (hg3.I (a := 65) (by decide) (by decide)) (by omega)

