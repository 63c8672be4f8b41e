set_option maxRecDepth 100000 in
set_option maxHeartbeats 600000 in
theorem c_X10_felled (l : Launch) (k : Nat) (F A : mmF) (R : mmR) (G : mmG) (t pl lk : Int32) (Q : QV) (hX : RepM F A R G Q) (hwf : wfQ Q) : Meets l hX10_felled (k + 3) 144 144 [.ref 123, .int t, .int pl, .int lk] F A R G (pI (fun v F1 A1 R1 G1 => v = wFelled Q t pl lk ∧ RepM F1 A1 R1 G1 Q ∧ frY F A R G F1 A1 R1 G1)) := by
  refine mm_start rfl (Nat.le_of_ble_eq_true rfl) (fun X hC => ?_)
  show WP hX10_felled X 144 0 [(0, .ref 123), (1, .int t), (2, .int pl), (3, .int lk)] [] F A R G
  obtain ⟨hw60, hw, hwS, hwA, hwE, hwK⟩ := id hwf
  have hw1 := hw.1
  refine wp_aload_n dX10_felled_0 rfl 0 rfl ?_
  refine wp_iconst (v := 0) dX10_felled_1 (by decide) ?_
  refine wp_putI fX10_71 fn_10_0 rfl (rfl) (by decide) dX10_felled_2 ?_
  obtain ⟨F0, hF0⟩ : ∃ z, z = u2 F 123 0 0 := ⟨_, rfl⟩
  rw [← hF0]
  have hs0 : scN F A F0 A := by rw [hF0]; exact scN.F (by decide)
  obtain ⟨hX0, hy0⟩ := hX.scr hs0
  obtain ⟨hR, ⟨hn, ht⟩, hM, hP, ⟨ha, hac⟩, ⟨he, hes⟩, hk, hg⟩ := id hX0
  refine wp_aload_n dX10_felled_5 rfl 0 rfl ?_
  refine wp_iload_n dX10_felled_6 rfl 1 rfl ?_
  refine wp_iload_n dX10_felled_7 rfl 2 rfl ?_
  refine wp_iload_n dX10_felled_8 rfl 3 rfl ?_
  refine wp_callP (e := noTm (qB Q) t pl lk) (mm_siteV (av := [.int t, .int pl, .int lk]) hC lX10_188 (rfl) (by decide) ⟨_, rfl, rfl⟩ rfl rfl (Nat.le_of_ble_eq_true rfl) dX10_felled_9) (c_X10_noThrow l k _ _ _ _ _ _ _ (qB Q) hM hw) (by omega) (by decide) ?_
  refine wp_istore [1, 2, 3, 4, 0] (by decide) rfl rfl rfl dX10_felled_12 ?_
  refine wp_iload dX10_felled_14 4 rfl ?_
  refine wp_if_eq 22 dX10_felled_16 (by decide) (fun c1 => ?_) (fun c1 => ?_)
  · obtain ⟨hn9, ⟨t, htn, rfl⟩, ⟨pp, hpp, hpe⟩, qq, hqq, hqe⟩ := noTm_nat hw c1
    refine wp_aload_n dX10_felled_22 rfl 0 rfl ?_
    refine wp_getO (q := 131) fX10_31 hR rfl (rfl) (by decide) (by decide) rfl dX10_felled_23 ?_
    refine wp_aload_n dX10_felled_26 rfl 0 rfl ?_
    refine wp_getO (q := 132) fX10_34 hR rfl (rfl) (by decide) (by decide) rfl dX10_felled_27 ?_
    refine wp_bipush (v := 15) dX10_felled_30 (by decide) ?_
    refine wp_callV (mm_siteS (av := [.ref 131, .ref 132, .int 15]) hC lX10_137 rfl rfl (Nat.le_of_ble_eq_true rfl) dX10_felled_32) (c_X10_copyRow l (k + 2) _ _ _ _ 131 132 15 rfl (by decide) (by decide) rfl (by decide) (by decide) (by decide) (by decide)) (by omega) (by decide) (by decide) ?_
    rintro F0 A1 _ _ ⟨rfl, hc1, hr1, rfl, rfl⟩
    have hT1 : isP A1 132 (qS Q) := fun k hk => (hc1 k hk).trans (hP k hk)
    have hs1 : scN F0 A F0 A1 := scN.A (r0 := 132) (by decide) hr1
    have hM1 : isM F0 A1 4 125 (qB Q) := isM_c hM ⟨rfl, rfl, rfl⟩ ⟨hr1 _ (by decide), hr1 _ (by decide), hr1 _ (by decide)⟩
    refine wp_aload_n dX10_felled_35 rfl 0 rfl ?_
    refine wp_aload_n dX10_felled_36 rfl 0 rfl ?_
    refine wp_getO (q := 132) fX10_34 hR rfl (rfl) (by decide) (by decide) rfl dX10_felled_37 ?_
    refine wp_iload_n dX10_felled_40 rfl 1 rfl ?_
    refine wp_iload_n dX10_felled_41 rfl 2 rfl ?_
    refine wp_iload_n dX10_felled_42 rfl 3 rfl ?_
    refine wp_callV (mm_siteV (av := [.ref 132, .int (nI t), .int pl, .int lk]) hC lX10_195 (rfl) (by decide) ⟨_, rfl, rfl⟩ rfl rfl (Nat.le_of_ble_eq_true rfl) dX10_felled_43) (c_X10_goThrow l k _ _ _ _ 132 t pl lk (qS Q) (qB Q) hR (Or.inr (Or.inl rfl)) hM1 hw hT1 hwS.1 hwS.2.2.2 htn) (by omega) (by decide) (by decide) ?_
    rintro F2 A2 _ _ ⟨hT2, -, hf2, rfl, rfl⟩
    refine wp_aload_n dX10_felled_46 rfl 0 rfl ?_
    refine wp_getO (q := 132) fX10_34 hR rfl (rfl) (by decide) (by decide) rfl dX10_felled_47 ?_
    refine wp_bipush (v := 12) dX10_felled_50 (by decide) ?_
    refine wp_iald 12 (rfl) (rfl) (by decide) ((show 12 < 15 from by omega)) dX10_felled_52 ?_
    refine wp_top (x' := (throwP (qB Q) (qS Q) t pl lk).1.2.2 2) (hT2 12 (by decide)) ?_
    exact wp_iret hC rfl rfl dX10_felled_53 (pI_ok (by unfold wFelled; rw [if_pos hn9, nI_clamp (by omega)]; obtain ⟨hX1, hy1⟩ := hX0.scr (hs1.trans (hf2.N (Or.inl rfl))); exact ⟨rfl, hX1, hy0.trans hy1⟩))
  · obtain ⟨hne, hn9⟩ := noTm_no c1
    refine wp_iload dX10_felled_19 4 rfl ?_
    exact wp_iret hC rfl rfl dX10_felled_21 (pI_ok ⟨by unfold wFelled; rw [if_neg hn9, hne], hX0, hy0⟩)

set_option maxRecDepth 100000 in
set_option maxHeartbeats 600000 in
theorem c_X10_winds (l : Launch) (k : Nat) (F A : mmF) (R : mmR) (G : mmG) (x y : Int32) (Q : QV) (hX : RepM F A R G Q) (hwf : wfQ Q) : Meets l hX10_winds (k + 2) 144 144 [.ref 123, .int x, .int y] F A R G (pI (fun v F1 A1 R1 G1 => v = wWinds Q x y ∧ RepM F1 A1 R1 G1 Q ∧ frY F A R G F1 A1 R1 G1)) := by
  refine mm_start rfl (Nat.le_of_ble_eq_true rfl) (fun X hC => ?_)
  show WP hX10_winds X 144 0 [(0, .ref 123), (1, .int x), (2, .int y)] [] F A R G
  obtain ⟨hw60, hw, hwS, hwA, hwE, hwK⟩ := id hwf
  have hw1 := hw.1
  refine wp_aload_n dX10_winds_0 rfl 0 rfl ?_
  refine wp_iconst (v := 0) dX10_winds_1 (by decide) ?_
  refine wp_putI fX10_71 fn_10_0 rfl (rfl) (by decide) dX10_winds_2 ?_
  obtain ⟨F0, hF0⟩ : ∃ z, z = u2 F 123 0 0 := ⟨_, rfl⟩
  rw [← hF0]
  have hs0 : scN F A F0 A := by rw [hF0]; exact scN.F (by decide)
  obtain ⟨hX0, hy0⟩ := hX.scr hs0
  obtain ⟨hR, ⟨hn, ht⟩, hM, hP, ⟨ha, hac⟩, ⟨he, hes⟩, hk, hg⟩ := id hX0
  refine wp_aload_n dX10_winds_5 rfl 0 rfl ?_
  refine wp_iload_n dX10_winds_6 rfl 1 rfl ?_
  refine wp_callP (e := if isIn x (nI (qB Q).1.2.1) = 0 then 1 else 0) (mm_siteV (av := [.int x]) hC lX10_183 (rfl) (by decide) ⟨_, rfl, rfl⟩ rfl rfl (Nat.le_of_ble_eq_true rfl) dX10_winds_7) (c_X10_noThrower l k _ _ _ _ _ (qB Q) hM hw) (by omega) (by decide) ?_
  refine wp_if_ne 21 dX10_winds_10 (by decide) (fun c1 => ?_) (fun c1 => ?_)
  · rw [ite01, Classical.not_not] at c1
    refine wp_iconst (v := (-1)) dX10_winds_21 (by decide) ?_
    exact wp_iret hC rfl rfl dX10_winds_22 (pI_ok ⟨by unfold wWinds; (first | rw [if_pos c1] | rw [if_neg c1, if_pos c2]), hX0, hy0⟩)
  · rw [ite01] at c1
    obtain ⟨t, htn, rfl⟩ := isIn_nat (by omega) c1
    refine wp_aload_n dX10_winds_13 rfl 0 rfl ?_
    refine wp_iload_n dX10_winds_14 rfl 2 rfl ?_
    refine wp_callP (e := if isIn y (nI (qB Q).1.1) = 0 then 1 else 0) (mm_siteV (av := [.int y]) hC lX10_179 (rfl) (by decide) ⟨_, rfl, rfl⟩ rfl rfl (Nat.le_of_ble_eq_true rfl) dX10_winds_15) (c_X10_noHusk l k _ _ _ _ _ (qB Q) hM hw) (by omega) (by decide) ?_
    refine wp_if_eq 23 dX10_winds_18 (by decide) (fun c2 => ?_) (fun c2 => ?_)
    · rw [ite01] at c2
      obtain ⟨h, hh, rfl⟩ := isIn_nat (by omega) c2
      refine wp_iconst (v := 0) dX10_winds_23 (by decide) ?_
      refine wp_istore_n [1, 2, 3, 0] (by decide) rfl rfl rfl dX10_winds_24 rfl ?_
      refine wp_iconst (v := 0) dX10_winds_25 (by decide) ?_
      refine wp_istore [1, 2, 3, 4, 0] (by decide) rfl rfl rfl dX10_winds_26 ?_
      have lp : ∀ (nn : Nat) (i : Nat) (q : Int32), (i ≤ 3) → (windP (qB Q) t h = (List.range' i (3 - i)).foldl (fun q w => if reachP ((qB Q).2 1 h) ((qB Q).2 6 t) (nI w) = 0 then q else q ||| sh w) q) → 3 - i < nn → WP hX10_winds X 144 28 [(0, .ref 123), (1, .int (nI t)), (2, .int (nI h)), (3, .int q), (4, .int (nI i))] [] F0 A R G := by
        intro nn
        induction nn with
        | zero => intro i q _ _ hm; exact absurd hm (Nat.not_lt_zero _)
        | succ nn ih_lp =>
          intro i q hi hv hm_lp
          refine wp_iload dX10_winds_28 4 rfl ?_
          refine wp_iconst (v := 3) dX10_winds_30 (by decide) ?_
          refine wp_icmp_ge 97 dX10_winds_31 (by decide) (fun c3 => ?_) (fun c3 => ?_)
          · replace c3 := (ix_le (a := 3) (b := i) (rfl) (rfl) (by omega) (by omega)).mp c3
            refine wp_aload_n dX10_winds_97 rfl 0 rfl ?_
            refine wp_getO (q := 131) fX10_31 hR rfl (rfl) (by decide) (by decide) rfl dX10_winds_98 ?_
            refine wp_bipush (v := 12) dX10_winds_101 (by decide) ?_
            refine wp_iald 12 (rfl) (rfl) (by decide) ((show 12 < 15 from by omega)) dX10_winds_103 ?_
            refine wp_top (x' := (qS Q).2.2 2) (hP 12 (by decide)) ?_
            refine wp_iload_n dX10_winds_104 rfl 2 rfl ?_
            refine wp_callP (e := bt ((qS Q).2.2 2) (nI h)) (mm_siteS (av := [.int ((qS Q).2.2 2), .int (nI h)]) hC lX10_144 rfl rfl (Nat.le_of_ble_eq_true rfl) dX10_winds_105) (c_X10_has l (k + 1) _ _ _ _ ((qS Q).2.2 2) (nI h)) (by omega) (by decide) ?_
            refine wp_if_eq 115 dX10_winds_108 (by decide) (fun c4 => ?_) (fun c4 => ?_)
            · refine wp_iload_n dX10_winds_115 rfl 3 rfl ?_
              exact wp_iret hC rfl rfl dX10_winds_116 (pI_ok ⟨by unfold wWinds; rw [if_neg c1, if_neg c2, if_pos c4, nI_clamp (by omega), nI_clamp (by omega), hv, show 3 - i = 0 by omega]; rfl, hX0, hy0⟩)
            · refine wp_iconst (v := 0) dX10_winds_111 (by decide) ?_
              refine wp_goto 116 dX10_winds_112 (by decide) ?_
              exact wp_iret hC rfl rfl dX10_winds_116 (pI_ok ⟨by unfold wWinds; rw [if_neg c1, if_neg c2, if_neg c4], hX0, hy0⟩)
          · replace c3 := mt (ix_le (a := 3) (b := i) (rfl) (rfl) (by omega) (by omega)).mpr c3
            refine wp_aload_n dX10_winds_34 rfl 0 rfl ?_
            refine wp_getO (q := 125) fX10_13 hR rfl (rfl) (by decide) (by decide) rfl dX10_winds_35 ?_
            refine wp_iconst (v := 3) dX10_winds_38 (by decide) ?_
            refine wp_iload_n dX10_winds_39 rfl 2 rfl ?_
            refine wp_imul dX10_winds_40 ?_
            refine wp_iald (3 * h) (ix_mul rfl rfl) (rfl) (by decide) ((show 3 * h < 15 from by omega)) dX10_winds_41 ?_
            refine wp_top (x' := (qB Q).2 1 h) (hM.2.2.2.1 h (by omega) 0 (by decide)) ?_
            refine wp_aload_n dX10_winds_42 rfl 0 rfl ?_
            refine wp_getO (q := 126) fX10_16 hR rfl (rfl) (by decide) (by decide) rfl dX10_winds_43 ?_
            refine wp_iconst (v := 3) dX10_winds_46 (by decide) ?_
            refine wp_iload_n dX10_winds_47 rfl 1 rfl ?_
            refine wp_imul dX10_winds_48 ?_
            refine wp_iconst (v := 2) dX10_winds_49 (by decide) ?_
            refine wp_iadd dX10_winds_50 ?_
            refine wp_iald ((3 * t) + 2) (ix_add (ix_mul rfl rfl) rfl) (rfl) (by decide) ((show (3 * t) + 2 < 12 from by omega)) dX10_winds_51 ?_
            refine wp_top (x' := (qB Q).2 6 t) (hM.2.2.2.2.1 t (by omega) 2 (by decide)) ?_
            refine wp_iconst (v := 1) dX10_winds_52 (by decide) ?_
            refine wp_icmp_ne 60 dX10_winds_53 (by decide) (fun c5 => ?_) (fun c5 => ?_)
            · refine wp_iload dX10_winds_60 4 rfl ?_
              refine wp_iconst (v := 1) dX10_winds_62 (by decide) ?_
              refine wp_isub dX10_winds_63 ?_
              refine wp_isub dX10_winds_64 ?_
              refine wp_istore [1, 2, 3, 4, 5, 0] (by decide) rfl rfl rfl dX10_winds_65 ?_
              refine wp_iload_n dX10_winds_67 rfl 3 rfl ?_
              refine wp_iload dX10_winds_68 5 rfl ?_
              refine wp_i2l dX10_winds_70 ?_
              refine wp_lconst (v := 0) dX10_winds_71 rfl ?_
              refine wp_topL (x' := (0 : Int32).toInt64) (by decide) ?_
              refine wp_ldc2 (v := 7) k_889 dX10_winds_72 ?_
              refine wp_topL (x' := (7 : Int32).toInt64) (by decide) ?_
              refine wp_callP (e := inP (((qB Q).2 1 h) - ((nI i) - 1)) 0 7) (mm_siteS (av := [.long ((((qB Q).2 1 h) - ((nI i) - 1)).toInt64), .long ((0 : Int32).toInt64), .long ((7 : Int32).toInt64)]) hC lX10_78 rfl rfl (Nat.le_of_ble_eq_true rfl) dX10_winds_75) (c_X10_in l (k + 1) _ _ _ _ (((qB Q).2 1 h) - ((nI i) - 1)) 0 7) (by omega) (by decide) ?_
              refine wp_if_eq 88 dX10_winds_78 (by decide) (fun c6 => ?_) (fun c6 => ?_)
              · rw [in8] at c6
                refine wp_iconst (v := 0) dX10_winds_88 (by decide) ?_
                refine wp_ior dX10_winds_89 ?_
                refine wp_istore_n [1, 2, 3, 0, 5, 6] (by decide) rfl rfl rfl dX10_winds_90 rfl ?_
                refine wp_iinc (v := nI (i + 1)) 4 rfl (by exact nI_1 i) [1, 2, 3, 4, 0, 6] (by decide) rfl rfl rfl dX10_winds_91 ?_
                refine wp_goto 28 dX10_winds_94 (by decide) ?_
                refine wp_lv [0, 1, 2, 3, 4] rfl ?_
                exact ih_lp (i + 1) (q ||| 0) (by omega) (by rw [hv, foldl_go (by omega)]; have e : reachP ((qB Q).2 1 h) ((qB Q).2 6 t) (nI i) = isIn (((qB Q).2 1 h) - ((nI i) - 1)) 8 := (by unfold reachP driftP; rw [if_neg c5]); rw [if_pos (e.trans c6), Int32.or_zero]) (by omega)
              · rw [in8] at c6
                refine wp_iconst (v := 1) dX10_winds_81 (by decide) ?_
                refine wp_iload dX10_winds_82 4 rfl ?_
                refine wp_ishl dX10_winds_84 ?_
                refine wp_goto 89 dX10_winds_85 (by decide) ?_
                refine wp_ior dX10_winds_89 ?_
                refine wp_istore_n [1, 2, 3, 0, 5, 6] (by decide) rfl rfl rfl dX10_winds_90 rfl ?_
                refine wp_iinc (v := nI (i + 1)) 4 rfl (by exact nI_1 i) [1, 2, 3, 4, 0, 6] (by decide) rfl rfl rfl dX10_winds_91 ?_
                refine wp_goto 28 dX10_winds_94 (by decide) ?_
                refine wp_lv [0, 1, 2, 3, 4] rfl ?_
                exact ih_lp (i + 1) (q ||| ((1 : Int32) <<< (nI i &&& 31))) (by omega) (by rw [hv, foldl_go (by omega)]; have e : reachP ((qB Q).2 1 h) ((qB Q).2 6 t) (nI i) = isIn (((qB Q).2 1 h) - ((nI i) - 1)) 8 := (by unfold reachP driftP; rw [if_neg c5]); rw [if_neg (fun h => c6 (e.symm.trans h))]; rfl) (by omega)
            · refine wp_iconst (v := 0) dX10_winds_56 (by decide) ?_
              refine wp_goto 64 dX10_winds_57 (by decide) ?_
              refine wp_isub dX10_winds_64 ?_
              refine wp_istore [1, 2, 3, 4, 5, 0] (by decide) rfl rfl rfl dX10_winds_65 ?_
              refine wp_iload_n dX10_winds_67 rfl 3 rfl ?_
              refine wp_iload dX10_winds_68 5 rfl ?_
              refine wp_i2l dX10_winds_70 ?_
              refine wp_lconst (v := 0) dX10_winds_71 rfl ?_
              refine wp_topL (x' := (0 : Int32).toInt64) (by decide) ?_
              refine wp_ldc2 (v := 7) k_889 dX10_winds_72 ?_
              refine wp_topL (x' := (7 : Int32).toInt64) (by decide) ?_
              refine wp_callP (e := inP (((qB Q).2 1 h) - 0) 0 7) (mm_siteS (av := [.long ((((qB Q).2 1 h) - 0).toInt64), .long ((0 : Int32).toInt64), .long ((7 : Int32).toInt64)]) hC lX10_78 rfl rfl (Nat.le_of_ble_eq_true rfl) dX10_winds_75) (c_X10_in l (k + 1) _ _ _ _ (((qB Q).2 1 h) - 0) 0 7) (by omega) (by decide) ?_
              refine wp_if_eq 88 dX10_winds_78 (by decide) (fun c7 => ?_) (fun c7 => ?_)
              · rw [in8] at c7
                refine wp_iconst (v := 0) dX10_winds_88 (by decide) ?_
                refine wp_ior dX10_winds_89 ?_
                refine wp_istore_n [1, 2, 3, 0, 5, 6] (by decide) rfl rfl rfl dX10_winds_90 rfl ?_
                refine wp_iinc (v := nI (i + 1)) 4 rfl (by exact nI_1 i) [1, 2, 3, 4, 0, 6] (by decide) rfl rfl rfl dX10_winds_91 ?_
                refine wp_goto 28 dX10_winds_94 (by decide) ?_
                refine wp_lv [0, 1, 2, 3, 4] rfl ?_
                exact ih_lp (i + 1) (q ||| 0) (by omega) (by rw [hv, foldl_go (by omega)]; have e : reachP ((qB Q).2 1 h) ((qB Q).2 6 t) (nI i) = isIn (((qB Q).2 1 h) - 0) 8 := (by unfold reachP driftP; rw [if_pos c5]); rw [if_pos (e.trans c7), Int32.or_zero]) (by omega)
              · rw [in8] at c7
                refine wp_iconst (v := 1) dX10_winds_81 (by decide) ?_
                refine wp_iload dX10_winds_82 4 rfl ?_
                refine wp_ishl dX10_winds_84 ?_
                refine wp_goto 89 dX10_winds_85 (by decide) ?_
                refine wp_ior dX10_winds_89 ?_
                refine wp_istore_n [1, 2, 3, 0, 5, 6] (by decide) rfl rfl rfl dX10_winds_90 rfl ?_
                refine wp_iinc (v := nI (i + 1)) 4 rfl (by exact nI_1 i) [1, 2, 3, 4, 0, 6] (by decide) rfl rfl rfl dX10_winds_91 ?_
                refine wp_goto 28 dX10_winds_94 (by decide) ?_
                refine wp_lv [0, 1, 2, 3, 4] rfl ?_
                exact ih_lp (i + 1) (q ||| ((1 : Int32) <<< (nI i &&& 31))) (by omega) (by rw [hv, foldl_go (by omega)]; have e : reachP ((qB Q).2 1 h) ((qB Q).2 6 t) (nI i) = isIn (((qB Q).2 1 h) - 0) 8 := (by unfold reachP driftP; rw [if_pos c5]); rw [if_neg (fun h => c7 (e.symm.trans h))]; rfl) (by omega)
      exact lp (3 + 1) 0 0 (by decide) rfl (by omega)
    · rw [ite01, Classical.not_not] at c2
      refine wp_iconst (v := (-1)) dX10_winds_21 (by decide) ?_
      exact wp_iret hC rfl rfl dX10_winds_22 (pI_ok ⟨by unfold wWinds; (first | rw [if_pos c1] | rw [if_neg c1, if_pos c2]), hX0, hy0⟩)

theorem wSee_no {Q : QV} {h f x : Int32} (h1 : ¬ isIn h (nI (qB Q).1.1) = 0) (h2 : inP f 1 11 = 0 ∨ inP x 0 1 = 0) : wSee Q h f x = (Q, -2) := by
  unfold wSee; rw [if_neg h1]
  by_cases a : f < 1
  · rw [if_pos a]
  · rw [if_neg a]
    by_cases b : (11 : Int32) < f
    · rw [if_pos b]
    · rw [if_neg b]
      rcases h2 with h2 | h2
      · rcases inP_0 h2 with h3 | ⟨-, h3⟩
        · exact absurd h3 a
        · exact absurd h3 b
      · rcases inP_0 h2 with h3 | ⟨h3, h4⟩
        · rw [if_pos h3]
        · rw [if_neg h3, if_neg (Int32.not_le.mpr h4)]
set_option maxRecDepth 100000 in
set_option maxHeartbeats 600000 in
theorem c_X10_see (l : Launch) (k : Nat) (F A : mmF) (R : mmR) (G : mmG) (x y z : Int32) (Q : QV) (hX : RepM F A R G Q) (hwf : wfQ Q) : Meets l hX10_see (k + 2) 144 144 [.ref 123, .int x, .int y, .int z] F A R G (pI (fun v F1 A1 R1 G1 => v = (wSee Q x y z).2 ∧ RepM F1 A1 R1 G1 (wSee Q x y z).1 ∧ frY F A R G F1 A1 R1 G1)) := by
  refine mm_start rfl (Nat.le_of_ble_eq_true rfl) (fun X hC => ?_)
  show WP hX10_see X 144 0 [(0, .ref 123), (1, .int x), (2, .int y), (3, .int z)] [] F A R G
  obtain ⟨hw60, hw, hwS, hwA, hwE, hwK⟩ := id hwf
  have hw1 := hw.1
  refine wp_aload_n dX10_see_0 rfl 0 rfl ?_
  refine wp_iconst (v := 0) dX10_see_1 (by decide) ?_
  refine wp_putI fX10_71 fn_10_0 rfl (rfl) (by decide) dX10_see_2 ?_
  obtain ⟨F0, hF0⟩ : ∃ z, z = u2 F 123 0 0 := ⟨_, rfl⟩
  rw [← hF0]
  have hs0 : scN F A F0 A := by rw [hF0]; exact scN.F (by decide)
  obtain ⟨hX0, hy0⟩ := hX.scr hs0
  obtain ⟨hR, ⟨hn, ht⟩, hM, hP, ⟨ha, hac⟩, ⟨he, hes⟩, hk, hg⟩ := id hX0
  refine wp_aload_n dX10_see_5 rfl 0 rfl ?_
  refine wp_iload_n dX10_see_6 rfl 1 rfl ?_
  refine wp_callP (e := if isIn x (nI (qB Q).1.1) = 0 then 1 else 0) (mm_siteV (av := [.int x]) hC lX10_179 (rfl) (by decide) ⟨_, rfl, rfl⟩ rfl rfl (Nat.le_of_ble_eq_true rfl) dX10_see_7) (c_X10_noHusk l k _ _ _ _ _ (qB Q) hM hw) (by omega) (by decide) ?_
  refine wp_if_eq 15 dX10_see_10 (by decide) (fun c1 => ?_) (fun c1 => ?_)
  · rw [ite01] at c1
    obtain ⟨h, hh, rfl⟩ := isIn_nat (by omega) c1
    refine wp_iload_n dX10_see_15 rfl 2 rfl ?_
    refine wp_i2l dX10_see_16 ?_
    refine wp_lconst (v := 1) dX10_see_17 rfl ?_
    refine wp_topL (x' := (1 : Int32).toInt64) (by decide) ?_
    refine wp_ldc2 (v := 11) k_1071 dX10_see_18 ?_
    refine wp_topL (x' := (11 : Int32).toInt64) (by decide) ?_
    refine wp_callP (e := inP y 1 11) (mm_siteS (av := [.long y.toInt64, .long ((1 : Int32).toInt64), .long ((11 : Int32).toInt64)]) hC lX10_78 rfl rfl (Nat.le_of_ble_eq_true rfl) dX10_see_21) (c_X10_in l (k + 1) _ _ _ _ y 1 11) (by omega) (by decide) ?_
    refine wp_if_eq 37 dX10_see_24 (by decide) (fun c2 => ?_) (fun c2 => ?_)
    · refine wp_bipush (v := (-2)) dX10_see_37 (by decide) ?_
      exact wp_iret hC rfl rfl dX10_see_39 (pI_ok (by rw [wSee_no c1 (Or.inl c2)]; exact ⟨rfl, hX0, hy0⟩))
    · refine wp_iload_n dX10_see_27 rfl 3 rfl ?_
      refine wp_i2l dX10_see_28 ?_
      refine wp_lconst (v := 0) dX10_see_29 rfl ?_
      refine wp_topL (x' := (0 : Int32).toInt64) (by decide) ?_
      refine wp_lconst (v := 1) dX10_see_30 rfl ?_
      refine wp_topL (x' := (1 : Int32).toInt64) (by decide) ?_
      refine wp_callP (e := inP z 0 1) (mm_siteS (av := [.long z.toInt64, .long ((0 : Int32).toInt64), .long ((1 : Int32).toInt64)]) hC lX10_78 rfl rfl (Nat.le_of_ble_eq_true rfl) dX10_see_31) (c_X10_in l (k + 1) _ _ _ _ z 0 1) (by omega) (by decide) ?_
      refine wp_if_ne 40 dX10_see_34 (by decide) (fun c3 => ?_) (fun c3 => ?_)
      · refine wp_aload_n dX10_see_40 rfl 0 rfl ?_
        refine wp_getI fX10_176 rfl (rfl) (by decide) dX10_see_41 ?_
        refine wp_top (x' := nI (qE Q).1) (he) ?_
        refine wp_bipush (v := 6) dX10_see_44 (by decide) ?_
        refine wp_icmp_ne 52 dX10_see_46 (by decide) (fun c4 => ?_) (fun c4 => ?_)
        · replace c4 := mt (ix_eq (a := (qE Q).1) (b := 6) (rfl) (rfl) (by omega) (by omega)).mpr c4
          refine wp_aload_n dX10_see_52 rfl 0 rfl ?_
          refine wp_getO (q := 137) fX10_50 hR rfl (rfl) (by decide) (by decide) rfl dX10_see_53 ?_
          refine wp_aload_n dX10_see_56 rfl 0 rfl ?_
          refine wp_getI fX10_176 rfl (rfl) (by decide) dX10_see_57 ?_
          refine wp_top (x' := nI (qE Q).1) (he) ?_
          refine wp_iload_n dX10_see_60 rfl 1 rfl ?_
          refine wp_iast ((qE Q).1) (rfl) (rfl) (by decide) ((show (qE Q).1 < 6 from by omega)) dX10_see_61 ?_
          refine wp_aload_n dX10_see_62 rfl 0 rfl ?_
          refine wp_getO (q := 138) fX10_53 hR rfl (rfl) (by decide) (by decide) rfl dX10_see_63 ?_
          refine wp_aload_n dX10_see_66 rfl 0 rfl ?_
          refine wp_getI fX10_176 rfl (rfl) (by decide) dX10_see_67 ?_
          refine wp_top (x' := nI (qE Q).1) (he) ?_
          refine wp_iload_n dX10_see_70 rfl 2 rfl ?_
          refine wp_iast ((qE Q).1) (rfl) (rfl) (by decide) ((show (qE Q).1 < 6 from by omega)) dX10_see_71 ?_
          refine wp_aload_n dX10_see_72 rfl 0 rfl ?_
          refine wp_getO (q := 139) fX10_56 hR rfl (rfl) (by decide) (by decide) rfl dX10_see_73 ?_
          refine wp_aload_n dX10_see_76 rfl 0 rfl ?_
          refine wp_getI fX10_176 rfl (rfl) (by decide) dX10_see_77 ?_
          refine wp_top (x' := nI (qE Q).1) (he) ?_
          refine wp_iload_n dX10_see_80 rfl 3 rfl ?_
          refine wp_iast ((qE Q).1) (rfl) (rfl) (by decide) ((show (qE Q).1 < 6 from by omega)) dX10_see_81 ?_
          refine wp_aload_n dX10_see_82 rfl 0 rfl ?_
          refine wp_dup dX10_see_83 rfl ?_
          refine wp_getI fX10_176 rfl (rfl) (by decide) dX10_see_84 ?_
          refine wp_top (x' := nI (qE Q).1) (he) ?_
          refine wp_iconst (v := 1) dX10_see_87 (by decide) ?_
          refine wp_iadd dX10_see_88 ?_
          refine wp_top (x' := nI ((qE Q).1 + 1)) (nI_1 (qE Q).1) ?_
          refine wp_putI fX10_176 fn_10_25 rfl (rfl) (by decide) dX10_see_89 ?_
          refine wp_aload_n dX10_see_92 rfl 0 rfl ?_
          refine wp_getI fX10_176 rfl (rfl) (by decide) dX10_see_93 ?_
          refine wp_top (x' := nI ((qE Q).1 + 1)) (by rw [u2_row]; exact va_up_self _ _ _) ?_
          exact wp_iret hC rfl rfl dX10_see_96 (pI_ok (by
    unfold wSee; rw [if_neg c1, if_neg (inP_1 c2).1, if_neg (inP_1 c2).2, if_neg (inP_1 c3).1, if_pos (Int32.not_lt.mp (inP_1 c3).2), if_pos (by omega)]
    obtain ⟨hX1, hy1⟩ := hX0.sn (F1 := u2 F0 123 25 (nI ((qE Q).1 + 1))) (A1 := u2 (u2 (u2 A 137 (qE Q).1 (nI h)) 138 (qE Q).1 y) 139 (qE Q).1 z) (n := (qE Q).1 + 1) (sr := u2 (u2 (u2 (qE Q).2 0 (qE Q).1 (nI h)) 1 (qE Q).1 y) 2 (qE Q).1 z) ⟨fun r hr => u2_ne hr, fun j _ hj => by rw [u2_row, va_up_ne _ _ hj], fun r _ h1 h2 h3 => by rw [u2_ne h3, u2_ne h2, u2_ne h1]⟩ (by rw [u2_row]; exact va_up_self _ _ _) (fun i hi => by
      by_cases e : i = (qE Q).1
      · subst e; simp [u2, va_up]
      · have := hes i (by omega)
        simp [u2, va_up, e, this])
    exact ⟨rfl, hX1, hy0.trans hy1⟩))
        · replace c4 := (ix_eq (a := (qE Q).1) (b := 6) (rfl) (rfl) (by omega) (by omega)).mp c4
          refine wp_bipush (v := (-4)) dX10_see_49 (by decide) ?_
          exact wp_iret hC rfl rfl dX10_see_51 (pI_ok (by unfold wSee; rw [if_neg c1, if_neg (inP_1 c2).1, if_neg (inP_1 c2).2, if_neg (inP_1 c3).1, if_pos (Int32.not_lt.mp (inP_1 c3).2), if_neg (by omega)]; exact ⟨rfl, hX0, hy0⟩))
      · refine wp_bipush (v := (-2)) dX10_see_37 (by decide) ?_
        exact wp_iret hC rfl rfl dX10_see_39 (pI_ok (by rw [wSee_no c1 (Or.inr c3)]; exact ⟨rfl, hX0, hy0⟩))
  · rw [ite01, Classical.not_not] at c1
    refine wp_iconst (v := (-1)) dX10_see_13 (by decide) ?_
    exact wp_iret hC rfl rfl dX10_see_14 (pI_ok (by unfold wSee; rw [if_pos c1]; exact ⟨rfl, hX0, hy0⟩))

set_option maxRecDepth 100000 in
set_option maxHeartbeats 600000 in
theorem c_X10_unsee (l : Launch) (k : Nat) (F A : mmF) (R : mmR) (G : mmG)  (Q : QV) (hX : RepM F A R G Q) (hwf : wfQ Q) : Meets l hX10_unsee k 144 144 [.ref 123] F A R G (pI (fun v F1 A1 R1 G1 => v = (wUnsee Q).2 ∧ RepM F1 A1 R1 G1 (wUnsee Q).1 ∧ frY F A R G F1 A1 R1 G1)) := by
  refine mm_start rfl (Nat.le_of_ble_eq_true rfl) (fun X hC => ?_)
  show WP hX10_unsee X 144 0 [(0, .ref 123)] [] F A R G
  obtain ⟨hw60, hw, hwS, hwA, hwE, hwK⟩ := id hwf
  have hw1 := hw.1
  refine wp_aload_n dX10_unsee_0 rfl 0 rfl ?_
  refine wp_iconst (v := 0) dX10_unsee_1 (by decide) ?_
  refine wp_putI fX10_71 fn_10_0 rfl (rfl) (by decide) dX10_unsee_2 ?_
  obtain ⟨F0, hF0⟩ : ∃ z, z = u2 F 123 0 0 := ⟨_, rfl⟩
  rw [← hF0]
  have hs0 : scN F A F0 A := by rw [hF0]; exact scN.F (by decide)
  obtain ⟨hX0, hy0⟩ := hX.scr hs0
  obtain ⟨hR, ⟨hn, ht⟩, hM, hP, ⟨ha, hac⟩, ⟨he, hes⟩, hk, hg⟩ := id hX0
  refine wp_aload_n dX10_unsee_5 rfl 0 rfl ?_
  refine wp_getI fX10_176 rfl (rfl) (by decide) dX10_unsee_6 ?_
  refine wp_top (x' := nI (qE Q).1) (he) ?_
  refine wp_istore_n [1, 0] (by decide) rfl rfl rfl dX10_unsee_9 rfl ?_
  refine wp_aload_n dX10_unsee_10 rfl 0 rfl ?_
  refine wp_iconst (v := 0) dX10_unsee_11 (by decide) ?_
  refine wp_putI fX10_176 fn_10_25 rfl (rfl) (by decide) dX10_unsee_12 ?_
  refine wp_iload_n dX10_unsee_15 rfl 1 rfl ?_
  exact wp_iret hC rfl rfl dX10_unsee_16 (pI_ok (by
    obtain ⟨hX1, hy1⟩ := hX0.sn (F1 := u2 F0 123 25 0) (A1 := A) (n := 0) (sr := (qE Q).2) ⟨fun r hr => u2_ne hr, fun j _ hj => by rw [u2_row, va_up_ne _ _ hj], fun r _ _ _ _ => rfl⟩ (by rw [u2_row]; exact va_up_self _ _ _) (fun i hi => absurd hi (Nat.not_lt_zero _))
    exact ⟨rfl, hX1, hy0.trans hy1⟩))

theorem wKeep_out {Q : QV} {x : Int32} (h : isIn x 2 = 0) : wKeep Q x = (Q, -1) := by
  refine wKeep_no ?_
  unfold isIn at h; split at h
  · rename_i h1; exact Or.inl h1
  · split at h
    · rename_i h2; exact Or.inr h2
    · exact absurd h (by decide)
theorem wAgain_out {Q : QV} {x : Int32} (h : isIn x 2 = 0) : wAgain Q x = (Q, -1) := by
  unfold wAgain
  unfold isIn at h; split at h
  · rename_i h1; rw [if_pos h1]
  · rename_i h1
    split at h
    · rename_i h2; rw [if_neg h1, if_neg (Int32.not_lt.mpr h2)]
    · exact absurd h (by decide)
set_option maxRecDepth 100000 in
set_option maxHeartbeats 600000 in
theorem c_X10_keep (l : Launch) (k : Nat) (F A : mmF) (R : mmR) (G : mmG) (x : Int32) (Q : QV) (hX : RepM F A R G Q) (hwf : wfQ Q) : Meets l hX10_keep (k + 1) 144 144 [.ref 123, .int x] F A R G (pI (fun v F1 A1 R1 G1 => v = (wKeep Q x).2 ∧ RepM F1 A1 R1 G1 (wKeep Q x).1 ∧ frY F A R G F1 A1 R1 G1)) := by
  refine mm_start rfl (Nat.le_of_ble_eq_true rfl) (fun X hC => ?_)
  show WP hX10_keep X 144 0 [(0, .ref 123), (1, .int x)] [] F A R G
  obtain ⟨hw60, hw, hwS, hwA, hwE, hwK⟩ := id hwf
  have hw1 := hw.1
  obtain ⟨dq, hnn, hnne⟩ := hwS.1
  refine wp_aload_n dX10_keep_0 rfl 0 rfl ?_
  refine wp_iconst (v := 0) dX10_keep_1 (by decide) ?_
  refine wp_putI fX10_71 fn_10_0 rfl (rfl) (by decide) dX10_keep_2 ?_
  obtain ⟨F0, hF0⟩ : ∃ z, z = u2 F 123 0 0 := ⟨_, rfl⟩
  rw [← hF0]
  have hs0 : scN F A F0 A := by rw [hF0]; exact scN.F (by decide)
  obtain ⟨hX0, hy0⟩ := hX.scr hs0
  obtain ⟨hR, ⟨hn, ht⟩, hM, hP, ⟨ha, hac⟩, ⟨he, hes⟩, hk, hg⟩ := id hX0
  refine wp_iload_n dX10_keep_5 rfl 1 rfl ?_
  refine wp_i2l dX10_keep_6 ?_
  refine wp_lconst (v := 0) dX10_keep_7 rfl ?_
  refine wp_topL (x' := (0 : Int32).toInt64) (by decide) ?_
  refine wp_lconst (v := 1) dX10_keep_8 rfl ?_
  refine wp_topL (x' := (1 : Int32).toInt64) (by decide) ?_
  refine wp_callP (e := inP x 0 1) (mm_siteS (av := [.long x.toInt64, .long ((0 : Int32).toInt64), .long ((1 : Int32).toInt64)]) hC lX10_78 rfl rfl (Nat.le_of_ble_eq_true rfl) dX10_keep_9) (c_X10_in l k _ _ _ _ x 0 1) (by omega) (by decide) ?_
  refine wp_if_ne 17 dX10_keep_12 (by decide) (fun c1 => ?_) (fun c1 => ?_)
  · rw [in2] at c1
    obtain ⟨j, hj, rfl⟩ := isIn_nat (n := 2) (by decide) c1
    refine wp_aload_n dX10_keep_17 rfl 0 rfl ?_
    refine wp_getO (q := 136) fX10_46 hR rfl (rfl) (by decide) (by decide) rfl dX10_keep_18 ?_
    refine wp_iload_n dX10_keep_21 rfl 1 rfl ?_
    refine wp_iconst (v := 1) dX10_keep_22 (by decide) ?_
    refine wp_zast j (rfl) rfl (rfl) (by decide) ((show j < 2 from by omega)) dX10_keep_23 ?_
    refine wp_iconst (v := 0) dX10_keep_24 (by decide) ?_
    refine wp_istore_n [1, 2, 0] (by decide) rfl rfl rfl dX10_keep_25 rfl ?_
    have lp : ∀ (nn : Nat) (i : Nat) (A1 : mmF), (i ≤ 15) → (∀ k, k < i → A1 135 (15 * j + k) = A 131 k) → (∀ k, (k < 15 * j ∨ 15 * j + 15 ≤ k) → A1 135 k = A 135 k) → (A1 136 = va_up (A 136) j 1) → (∀ r, r ≠ 135 → r ≠ 136 → A1 r = A r) → 15 - i < nn → WP hX10_keep X 144 26 [(0, .ref 123), (1, .int (nI j)), (2, .int (nI i))] [] F0 A1 R G := by
      intro nn
      induction nn with
      | zero => intro i A1 _ _ _ _ _ hm; exact absurd hm (Nat.not_lt_zero _)
      | succ nn ih_lp =>
        intro i A1 hi hlo hot h136 hr1 hm_lp
        refine wp_iload_n dX10_keep_26 rfl 2 rfl ?_
        refine wp_bipush (v := 15) dX10_keep_27 (by decide) ?_
        refine wp_icmp_ge 55 dX10_keep_29 (by decide) (fun c2 => ?_) (fun c2 => ?_)
        · replace c2 := (ix_le (a := 15) (b := i) (rfl) (rfl) (by omega) (by omega)).mp c2
          refine wp_aload_n dX10_keep_55 rfl 0 rfl ?_
          refine wp_getO (q := 131) fX10_31 hR rfl (rfl) (by decide) (by decide) rfl dX10_keep_56 ?_
          refine wp_bipush (v := 12) dX10_keep_59 (by decide) ?_
          refine wp_iald 12 (rfl) (rfl) (by decide) ((show 12 < 15 from by omega)) dX10_keep_61 ?_
          refine wp_top (x' := nI dq) ((by rw [hr1 131 (by decide) (by decide)]; exact (hP 12 (by decide)).trans hnne)) ?_
          refine wp_callP (e := nI (bc dq)) (mm_siteS (av := [.int (nI dq)]) hC lX10_228 rfl rfl (Nat.le_of_ble_eq_true rfl) dX10_keep_62) (c_X10_many l k _ _ _ _ dq hnn) (by omega) (by decide) ?_
          exact wp_iret hC rfl rfl dX10_keep_65 (pI_ok (by
    unfold wKeep; rw [if_neg (nI_pos (by omega)), if_pos (show nI j < 2 from nI_lt (b := 2) hj (by decide)), nI_clamp (by omega), hnne, manyP_nI hnn]
    obtain ⟨hX1, hy1⟩ := hX0.kp (F1 := F0) (A1 := A1) (K := va_up (qK Q) j (some (qS Q))) ⟨fun _ _ => rfl, fun _ _ _ => rfl, fun r _ h1 h2 _ => hr1 r h1 h2⟩ (fun a ha2 => ⟨by
        rw [h136]
        by_cases e : a = j
        · subst e; simp [va_up]
        · simp only [va_up, e, if_false]; exact (hk a ha2).1, fun S hS k hk2 => by
        by_cases e : a = j
        · subst e; rw [va_up_self] at hS; cases hS
          rw [hlo k (by omega)]; exact hP k hk2
        · rw [va_up_ne _ _ e] at hS
          rw [hot _ (by omega)]; exact (hk a ha2).2 S hS k hk2⟩)
    exact ⟨rfl, hX1, hy0.trans hy1⟩))
        · replace c2 := mt (ix_le (a := 15) (b := i) (rfl) (rfl) (by omega) (by omega)).mpr c2
          refine wp_aload_n dX10_keep_32 rfl 0 rfl ?_
          refine wp_getO (q := 135) fX10_43 hR rfl (rfl) (by decide) (by decide) rfl dX10_keep_33 ?_
          refine wp_bipush (v := 15) dX10_keep_36 (by decide) ?_
          refine wp_iload_n dX10_keep_38 rfl 1 rfl ?_
          refine wp_imul dX10_keep_39 ?_
          refine wp_iload_n dX10_keep_40 rfl 2 rfl ?_
          refine wp_iadd dX10_keep_41 ?_
          refine wp_aload_n dX10_keep_42 rfl 0 rfl ?_
          refine wp_getO (q := 131) fX10_31 hR rfl (rfl) (by decide) (by decide) rfl dX10_keep_43 ?_
          refine wp_iload_n dX10_keep_46 rfl 2 rfl ?_
          refine wp_iald i (rfl) (rfl) (by decide) ((show i < 15 from by omega)) dX10_keep_47 ?_
          refine wp_iast ((15 * j) + i) (ix_add (ix_mul rfl rfl) rfl) (rfl) (by decide) ((show (15 * j) + i < 30 from by omega)) dX10_keep_48 ?_
          refine wp_iinc (v := nI (i + 1)) 2 rfl (by exact nI_1 i) [1, 2, 0] (by decide) rfl rfl rfl dX10_keep_49 ?_
          refine wp_goto 26 dX10_keep_52 (by decide) ?_
          exact ih_lp (i + 1) _ (by omega) (fun k hk => by rw [u2_row]; by_cases e : k = i; (rw [e, va_up_self, hr1 131 (by decide) (by decide)]); (rw [va_up_ne _ _ (by omega)]; exact hlo k (by omega))) (fun k hk => by rw [u2_row, va_up_ne _ _ (by omega)]; exact hot k hk) (by rw [u2_ne (by decide)]; exact h136) (fun r h1 h2 => by rw [u2_ne h1]; exact hr1 r h1 h2) (by omega)
    exact lp (15 + 1) 0 _ (by decide) (fun _ h => absurd h (Nat.not_lt_zero _)) (fun _ _ => by rw [u2_ne (by decide)]) (by rw [u2_row]) (fun r h1 h2 => by rw [u2_ne h2]) (by omega)
  · rw [in2] at c1
    refine wp_iconst (v := (-1)) dX10_keep_15 (by decide) ?_
    exact wp_iret hC rfl rfl dX10_keep_16 (pI_ok (by rw [wKeep_out c1]; exact ⟨rfl, hX0, hy0⟩))

set_option maxRecDepth 100000 in
set_option maxHeartbeats 600000 in
theorem c_X10_again (l : Launch) (k : Nat) (F A : mmF) (R : mmR) (G : mmG) (x : Int32) (Q : QV) (hX : RepM F A R G Q) (hwf : wfQ Q) : Meets l hX10_again (k + 1) 144 144 [.ref 123, .int x] F A R G (pI (fun v F1 A1 R1 G1 => v = (wAgain Q x).2 ∧ RepM F1 A1 R1 G1 (wAgain Q x).1 ∧ frY F A R G F1 A1 R1 G1)) := by
  refine mm_start rfl (Nat.le_of_ble_eq_true rfl) (fun X hC => ?_)
  show WP hX10_again X 144 0 [(0, .ref 123), (1, .int x)] [] F A R G
  obtain ⟨hw60, hw, hwS, hwA, hwE, hwK⟩ := id hwf
  have hw1 := hw.1
  refine wp_aload_n dX10_again_0 rfl 0 rfl ?_
  refine wp_iconst (v := 0) dX10_again_1 (by decide) ?_
  refine wp_putI fX10_71 fn_10_0 rfl (rfl) (by decide) dX10_again_2 ?_
  obtain ⟨F0, hF0⟩ : ∃ z, z = u2 F 123 0 0 := ⟨_, rfl⟩
  rw [← hF0]
  have hs0 : scN F A F0 A := by rw [hF0]; exact scN.F (by decide)
  obtain ⟨hX0, hy0⟩ := hX.scr hs0
  obtain ⟨hR, ⟨hn, ht⟩, hM, hP, ⟨ha, hac⟩, ⟨he, hes⟩, hk, hg⟩ := id hX0
  refine wp_iload_n dX10_again_5 rfl 1 rfl ?_
  refine wp_i2l dX10_again_6 ?_
  refine wp_lconst (v := 0) dX10_again_7 rfl ?_
  refine wp_topL (x' := (0 : Int32).toInt64) (by decide) ?_
  refine wp_lconst (v := 1) dX10_again_8 rfl ?_
  refine wp_topL (x' := (1 : Int32).toInt64) (by decide) ?_
  refine wp_callP (e := inP x 0 1) (mm_siteS (av := [.long x.toInt64, .long ((0 : Int32).toInt64), .long ((1 : Int32).toInt64)]) hC lX10_78 rfl rfl (Nat.le_of_ble_eq_true rfl) dX10_again_9) (c_X10_in l k _ _ _ _ x 0 1) (by omega) (by decide) ?_
  refine wp_if_ne 17 dX10_again_12 (by decide) (fun c1 => ?_) (fun c1 => ?_)
  · rw [in2] at c1
    obtain ⟨j, hj, rfl⟩ := isIn_nat (n := 2) (by decide) c1
    refine wp_aload_n dX10_again_17 rfl 0 rfl ?_
    refine wp_getO (q := 136) fX10_46 hR rfl (rfl) (by decide) (by decide) rfl dX10_again_18 ?_
    refine wp_iload_n dX10_again_21 rfl 1 rfl ?_
    refine wp_zald j (rfl) (rfl) (by decide) ((show j < 2 from by omega)) dX10_again_22 ?_
    refine wp_if_ne 29 dX10_again_23 (by decide) (fun c2 => ?_) (fun c2 => ?_)
    · have hkj := hk j hj
      have hsm : (qK Q j).isSome = true := by cases hq : qK Q j with | none => rw [hkj.1, hq] at c2; exact absurd rfl c2 | some S => rfl
      have hqs : qK Q j = some ((qK Q j).getD (qS Q)) := by cases hq : qK Q j with | none => rw [hq] at hsm; cases hsm | some S => rfl
      obtain ⟨dq, hnn, hnne⟩ := (hwK j _ hqs).1
      refine wp_iconst (v := 0) dX10_again_29 (by decide) ?_
      refine wp_istore_n [1, 2, 0] (by decide) rfl rfl rfl dX10_again_30 rfl ?_
      have lp : ∀ (nn : Nat) (i : Nat) (A1 : mmF), (i ≤ 15) → (∀ k, k < i → A1 131 k = A 135 (15 * j + k)) → (∀ r, r ≠ 131 → A1 r = A r) → 15 - i < nn → WP hX10_again X 144 31 [(0, .ref 123), (1, .int (nI j)), (2, .int (nI i))] [] F0 A1 R G := by
        intro nn
        induction nn with
        | zero => intro i A1 _ _ _ hm; exact absurd hm (Nat.not_lt_zero _)
        | succ nn ih_lp =>
          intro i A1 hi hlo hr1 hm_lp
          refine wp_iload_n dX10_again_31 rfl 2 rfl ?_
          refine wp_bipush (v := 15) dX10_again_32 (by decide) ?_
          refine wp_icmp_ge 60 dX10_again_34 (by decide) (fun c3 => ?_) (fun c3 => ?_)
          · replace c3 := (ix_le (a := 15) (b := i) (rfl) (rfl) (by omega) (by omega)).mp c3
            refine wp_aload_n dX10_again_60 rfl 0 rfl ?_
            refine wp_iconst (v := 0) dX10_again_61 (by decide) ?_
            refine wp_putI fX10_141 fn_10_22 rfl (rfl) (by decide) dX10_again_62 ?_
            refine wp_aload_n dX10_again_65 rfl 0 rfl ?_
            refine wp_getO (q := 131) fX10_31 hR rfl (rfl) (by decide) (by decide) rfl dX10_again_66 ?_
            refine wp_bipush (v := 12) dX10_again_69 (by decide) ?_
            refine wp_iald 12 (rfl) (rfl) (by decide) ((show 12 < 15 from by omega)) dX10_again_71 ?_
            refine wp_top (x' := nI dq) ((hlo 12 (by omega)).trans ((hkj.2 _ hqs 12 (by decide)).trans hnne)) ?_
            refine wp_callP (e := nI (bc dq)) (mm_siteS (av := [.int (nI dq)]) hC lX10_228 rfl rfl (Nat.le_of_ble_eq_true rfl) dX10_again_72) (c_X10_many l k _ _ _ _ dq hnn) (by omega) (by decide) ?_
            exact wp_iret hC rfl rfl dX10_again_75 (pI_ok (by
    unfold wAgain; rw [if_neg (nI_pos (by omega)), if_pos (show nI j < 2 from nI_lt (b := 2) hj (by decide)), nI_clamp (by omega), if_pos hsm, hnne, manyP_nI hnn]
    obtain ⟨hX1, hy1⟩ := hX0.un (F1 := u2 F0 123 22 0) (A1 := A1) (S := ((qK Q j).getD (qS Q))) (a := []) ⟨fun r hr => u2_ne hr, fun j _ hj => by rw [u2_row, va_up_ne _ _ hj], fun r _ hr _ _ => hr1 r hr⟩ (fun k hk => by rw [hlo k (by omega)]; exact hkj.2 _ hqs k hk) (by rw [u2_row]; exact va_up_self _ _ _) (fun i S hi => absurd (show ([] : List SV)[i]? = some S from hi) (by simp))
    exact ⟨rfl, hX1, hy0.trans hy1⟩))
          · replace c3 := mt (ix_le (a := 15) (b := i) (rfl) (rfl) (by omega) (by omega)).mpr c3
            refine wp_aload_n dX10_again_37 rfl 0 rfl ?_
            refine wp_getO (q := 131) fX10_31 hR rfl (rfl) (by decide) (by decide) rfl dX10_again_38 ?_
            refine wp_iload_n dX10_again_41 rfl 2 rfl ?_
            refine wp_aload_n dX10_again_42 rfl 0 rfl ?_
            refine wp_getO (q := 135) fX10_43 hR rfl (rfl) (by decide) (by decide) rfl dX10_again_43 ?_
            refine wp_bipush (v := 15) dX10_again_46 (by decide) ?_
            refine wp_iload_n dX10_again_48 rfl 1 rfl ?_
            refine wp_imul dX10_again_49 ?_
            refine wp_iload_n dX10_again_50 rfl 2 rfl ?_
            refine wp_iadd dX10_again_51 ?_
            refine wp_iald ((15 * j) + i) (ix_add (ix_mul rfl rfl) rfl) (rfl) (by decide) ((show (15 * j) + i < 30 from by omega)) dX10_again_52 ?_
            refine wp_iast i (rfl) (rfl) (by decide) ((show i < 15 from by omega)) dX10_again_53 ?_
            refine wp_iinc (v := nI (i + 1)) 2 rfl (by exact nI_1 i) [1, 2, 0] (by decide) rfl rfl rfl dX10_again_54 ?_
            refine wp_goto 31 dX10_again_57 (by decide) ?_
            exact ih_lp (i + 1) _ (by omega) (fun k hk => by rw [u2_row]; by_cases e : k = i; (rw [e, va_up_self, hr1 135 (by decide)]); (rw [va_up_ne _ _ e]; exact hlo k (by omega))) (fun r h => by rw [u2_ne h]; exact hr1 r h) (by omega)
      exact lp (15 + 1) 0 A (by decide) (fun _ h => absurd h (Nat.not_lt_zero _)) (fun _ _ => rfl) (by omega)
    · have hkj := hk j hj
      have hsm : ¬ (qK Q j).isSome = true := by intro h; rw [hkj.1, if_pos h] at c2; exact absurd c2 (by decide)
      refine wp_bipush (v := (-3)) dX10_again_26 (by decide) ?_
      exact wp_iret hC rfl rfl dX10_again_28 (pI_ok (by unfold wAgain; rw [if_neg (nI_pos (by omega)), if_pos (show nI j < 2 from nI_lt (b := 2) hj (by decide)), nI_clamp (by omega), if_neg hsm]; exact ⟨rfl, hX0, hy0⟩))
  · rw [in2] at c1
    refine wp_iconst (v := (-1)) dX10_again_15 (by decide) ?_
    exact wp_iret hC rfl rfl dX10_again_16 (pI_ok (by rw [wAgain_out c1]; exact ⟨rfl, hX0, hy0⟩))

set_option maxRecDepth 100000 in
set_option maxHeartbeats 600000 in
theorem c_X10_seed (l : Launch) (k : Nat) (F A : mmF) (R : mmR) (G : mmG) (x : Int64) (Q : QV) (hX : RepM F A R G Q) (hwf : wfQ Q) : Meets l hX10_seed k 144 144 [.ref 123, .long x] F A R G (pL (fun v F1 A1 R1 G1 => v = (wSeed Q x).2 ∧ RepM F1 A1 R1 G1 (wSeed Q x).1 ∧ frY F A R G F1 A1 R1 G1)) := by
  refine mm_start rfl (Nat.le_of_ble_eq_true rfl) (fun X hC => ?_)
  show WP hX10_seed X 144 0 [(0, .ref 123), (1, .long x)] [] F A R G
  obtain ⟨hw60, hw, hwS, hwA, hwE, hwK⟩ := id hwf
  have hw1 := hw.1
  refine wp_aload_n dX10_seed_0 rfl 0 rfl ?_
  refine wp_iconst (v := 0) dX10_seed_1 (by decide) ?_
  refine wp_putI fX10_71 fn_10_0 rfl (rfl) (by decide) dX10_seed_2 ?_
  obtain ⟨F0, hF0⟩ : ∃ z, z = u2 F 123 0 0 := ⟨_, rfl⟩
  rw [← hF0]
  have hs0 : scN F A F0 A := by rw [hF0]; exact scN.F (by decide)
  obtain ⟨hX0, hy0⟩ := hX.scr hs0
  obtain ⟨hR, ⟨hn, ht⟩, hM, hP, ⟨ha, hac⟩, ⟨he, hes⟩, hk, hg⟩ := id hX0
  refine wp_aload_n dX10_seed_5 rfl 0 rfl ?_
  refine wp_getL fX10_269 rfl (rfl) (by decide) dX10_seed_6 ?_
  refine wp_lstore_n [1, 2, 0] (by decide) rfl rfl rfl dX10_seed_9 rfl ?_
  refine wp_aload_n dX10_seed_10 rfl 0 rfl ?_
  refine wp_lload_n dX10_seed_11 rfl 1 rfl ?_
  refine wp_putL fX10_269 fn_10_29 rfl (ft10) (rfl) (by decide) dX10_seed_12 ?_
  refine wp_lload_n dX10_seed_15 rfl 2 rfl ?_
  exact wp_lret hC rfl dX10_seed_16 (pL_ok (by obtain ⟨hX1, hy1⟩ := hX0.sd (scM.refl _ _ _ _ _ _) (G1 := va_up G 123 x) (va_up_self _ _ _) (fun r hr => va_up_ne _ _ hr); exact ⟨hg, hX1, hy0.trans hy1⟩))

