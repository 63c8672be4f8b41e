set_option maxRecDepth 100000 in
set_option maxHeartbeats 600000 in
theorem c_X10_match (l : Launch) (k : Nat) (F A : mmF) (R : mmR) (G : mmG) (row : Int32) (Q : QV) (hX : RepM F A R G Q) (hwf : wfQ Q) : Meets l hX10_match (k + 5) 144 144 [.ref 123, .int row] F A R G (pI (fun v F1 A1 R1 G1 => v = wMatch Q row ∧ RepM F1 A1 R1 G1 Q ∧ frY F A R G F1 A1 R1 G1)) := by
  refine mm_start rfl (Nat.le_of_ble_eq_true rfl) (fun X hC => ?_)
  show WP hX10_match X 144 0 [(0, .ref 123), (1, .int row)] [] F A R G
  obtain ⟨hw60, hw, hwS, hwA, hwE, hwK⟩ := id hwf
  have hw1 := hw.1
  refine wp_aload_n dX10_match_0 rfl 0 rfl ?_
  refine wp_iconst (v := 0) dX10_match_1 (by decide) ?_
  refine wp_putI fX10_71 fn_10_0 rfl (rfl) (by decide) dX10_match_2 ?_
  obtain ⟨F0, hF0⟩ : ∃ z, z = u2 F 123 0 0 := ⟨_, rfl⟩
  rw [← hF0]
  have hs0 : scN F A F0 A := by rw [hF0]; exact scN.F (by decide)
  obtain ⟨hX0, hy0⟩ := hX.scr hs0
  obtain ⟨hR, ⟨hn, ht⟩, hM, hP, ⟨ha, hac⟩, ⟨he, hes⟩, hk, hg⟩ := id hX0
  refine wp_aload_n dX10_match_5 rfl 0 rfl ?_
  refine wp_bipush (v := 15) dX10_match_6 (by decide) ?_
  refine wp_callV (mm_siteV (av := [.int 15]) hC lX10_231 (rfl) (by decide) ⟨_, rfl, rfl⟩ rfl rfl (Nat.le_of_ble_eq_true rfl) dX10_match_8) (c_X10_findMatch l k _ _ _ _ 15 (qS Q) (qB Q) hR hM hw hP hwS.1 hwS.2.2.2) (by omega) (by decide) (by decide) ?_
  rintro F1 A1 _ _ ⟨hq, hf1, rfl, rfl⟩
  rw [mt_15 hw] at hq
  refine wp_iload_n dX10_match_11 rfl 1 rfl ?_
  refine wp_if_eq 22 dX10_match_12 (by decide) (fun c1 => ?_) (fun c1 => ?_)
  · refine wp_aload_n dX10_match_22 rfl 0 rfl ?_
    refine wp_getI fX10_222 rfl (rfl) (by decide) dX10_match_23 ?_
    refine wp_top (x' := (mtP (qB Q) (qS Q) (sh (qB Q).1.2.1 - 1)).1) (congrArg Prod.fst hq) ?_
    exact wp_iret hC rfl rfl dX10_match_26 (pI_ok (by unfold wMatch; rw [if_pos c1]; obtain ⟨hX1, hy1⟩ := hX0.scr (hf1.N (by decide) (by decide) (by decide)); exact ⟨rfl, hX1, hy0.trans hy1⟩))
  · refine wp_aload_n dX10_match_15 rfl 0 rfl ?_
    refine wp_getI fX10_225 rfl (rfl) (by decide) dX10_match_16 ?_
    refine wp_top (x' := (mtP (qB Q) (qS Q) (sh (qB Q).1.2.1 - 1)).2) (congrArg Prod.snd hq) ?_
    refine wp_goto 26 dX10_match_19 (by decide) ?_
    exact wp_iret hC rfl rfl dX10_match_26 (pI_ok (by unfold wMatch; rw [if_neg c1]; obtain ⟨hX1, hy1⟩ := hX0.scr (hf1.N (by decide) (by decide) (by decide)); exact ⟨rfl, hX1, hy0.trans hy1⟩))

theorem or_nat : ∀ T, T ≤ 4 → ∀ o, o < 2 ^ T → ∀ t, t < T → nI o ||| sh t = nI (o ||| 2 ^ t) ∧ o ||| 2 ^ t < 2 ^ T := by decide +kernel
theorem mul4 (a b c d : Int32) : a + b * c * d = a + c * d * b := by
  rw [Int32.mul_assoc b c d, Int32.mul_comm b (c * d)]
set_option maxRecDepth 100000 in
set_option maxHeartbeats 600000 in
theorem c_X10_share (l : Launch) (k : Nat) (F A : mmF) (R : mmR) (G : mmG) (x u : Int32) (Q : QV) (hX : RepM F A R G Q) (hwf : wfQ Q) : Meets l hX10_share (k + 5) 144 144 [.ref 123, .int x, .int u] F A R G (pI (fun v F1 A1 R1 G1 => v = wShare Q x u ∧ RepM F1 A1 R1 G1 Q ∧ frY F A R G F1 A1 R1 G1)) := by
  refine mm_start rfl (Nat.le_of_ble_eq_true rfl) (fun X hC => ?_)
  show WP hX10_share X 144 0 [(0, .ref 123), (1, .int x), (2, .int u)] [] F A R G
  obtain ⟨hw60, hw, hwS, hwA, hwE, hwK⟩ := id hwf
  have hw1 := hw.1
  obtain ⟨MM, hMM⟩ : ∃ MM, MM = 2 ^ (qB Q).1.2.1 := ⟨_, rfl⟩
  have hM16 : MM ≤ 16 := by rw [hMM]; exact (Nat.pow_le_pow_right (by decide) hw1.2.1 : 2 ^ (qB Q).1.2.1 ≤ 2 ^ 4)
  refine wp_aload_n dX10_share_0 rfl 0 rfl ?_
  refine wp_iconst (v := 0) dX10_share_1 (by decide) ?_
  refine wp_putI fX10_71 fn_10_0 rfl (rfl) (by decide) dX10_share_2 ?_
  obtain ⟨F0, hF0⟩ : ∃ z, z = u2 F 123 0 0 := ⟨_, rfl⟩
  rw [← hF0]
  have hs0 : scN F A F0 A := by rw [hF0]; exact scN.F (by decide)
  obtain ⟨hX0, hy0⟩ := hX.scr hs0
  obtain ⟨hR, ⟨hn, ht⟩, hM, hP, ⟨ha, hac⟩, ⟨he, hes⟩, hk, hg⟩ := id hX0
  refine wp_aload_n dX10_share_5 rfl 0 rfl ?_
  refine wp_iload_n dX10_share_6 rfl 1 rfl ?_
  refine wp_callP (e := if isIn x (nI (qB Q).1.2.1) = 0 then 1 else 0) (mm_siteV (av := [.int x]) hC lX10_183 (rfl) (by decide) ⟨_, rfl, rfl⟩ rfl rfl (Nat.le_of_ble_eq_true rfl) dX10_share_7) (c_X10_noThrower l (k + 3) _ _ _ _ _ (qB Q) hM hw) (by omega) (by decide) ?_
  refine wp_if_eq 15 dX10_share_10 (by decide) (fun c1 => ?_) (fun c1 => ?_)
  · rw [ite01] at c1
    obtain ⟨t, htn, rfl⟩ := isIn_nat (by omega) c1
    refine wp_iconst (v := 0) dX10_share_15 (by decide) ?_
    refine wp_istore_n [1, 2, 3, 0] (by decide) rfl rfl rfl dX10_share_16 rfl ?_
    have lp : ∀ (nn : Nat) (o : Nat) (F1 A1 : mmF), (o ≤ MM) → (∀ j, j < o → A1 143 j = (mtP (qB Q) (qS Q) (nI j)).1) → (frG 35 36 143 F0 A F1 A1) → MM - o < nn → WP hX10_share X 144 17 [(0, .ref 123), (1, .int (nI t)), (2, .int u), (3, .int (nI o))] [] F1 A1 R G := by
      intro nn
      induction nn with
      | zero => intro o F1 A1 _ _ _ hm; exact absurd hm (Nat.not_lt_zero _)
      | succ nn ih_lp =>
        intro o F1 A1 ho hval hf hm_lp
        have hMc := hf.m (by decide) (by decide) (by decide) hM
        have hPc : isP A1 131 (qS Q) := isP_c hP (hf.2.2 131 (by decide) (by decide) (by decide) (by decide))
        refine wp_iload_n dX10_share_17 rfl 3 rfl ?_
        refine wp_iconst (v := 1) dX10_share_18 (by decide) ?_
        refine wp_aload_n dX10_share_19 rfl 0 rfl ?_
        refine wp_getI fX10_82 rfl (rfl) (by decide) dX10_share_20 ?_
        refine wp_top (x' := nI (qB Q).1.2.1) (hMc.2.1) ?_
        refine wp_ishl dX10_share_23 ?_
        refine wp_top (x' := nI MM) ((sh_nI (by omega)).trans (by rw [hMM])) ?_
        refine wp_icmp_ge 48 dX10_share_24 (by decide) (fun c2 => ?_) (fun c2 => ?_)
        · replace c2 := (ix_le (a := MM) (b := o) (rfl) (rfl) (by omega) (by omega)).mp c2
          refine wp_iconst (v := 0) dX10_share_48 (by decide) ?_
          refine wp_istore_n [1, 2, 3, 0] (by decide) rfl rfl rfl dX10_share_49 rfl ?_
          refine wp_iconst (v := 0) dX10_share_50 (by decide) ?_
          refine wp_istore [1, 2, 3, 4, 0] (by decide) rfl rfl rfl dX10_share_51 ?_
          have l2 : ∀ (nn : Nat) (o : Nat) (q : Int32), (o ≤ MM) → (shrP (qB Q) (qS Q) t = (List.range' o (MM - o)).foldl (shrS (qB Q) (qS Q) t) q) → MM - o < nn → WP hX10_share X 144 53 [(0, .ref 123), (1, .int (nI t)), (2, .int u), (3, .int q), (4, .int (nI o))] [] F1 A1 R G := by
            intro nn
            induction nn with
            | zero => intro o q _ _ hm; exact absurd hm (Nat.not_lt_zero _)
            | succ nn ih_l2 =>
              intro o q ho hv hm_l2
              refine wp_iload dX10_share_53 4 rfl ?_
              refine wp_iconst (v := 1) dX10_share_55 (by decide) ?_
              refine wp_aload_n dX10_share_56 rfl 0 rfl ?_
              refine wp_getI fX10_82 rfl (rfl) (by decide) dX10_share_57 ?_
              refine wp_top (x' := nI (qB Q).1.2.1) (hMc.2.1) ?_
              refine wp_ishl dX10_share_60 ?_
              refine wp_top (x' := nI MM) ((sh_nI (by omega)).trans (by rw [hMM])) ?_
              refine wp_icmp_ge 127 dX10_share_61 (by decide) (fun c3 => ?_) (fun c3 => ?_)
              · replace c3 := (ix_le (a := MM) (b := o) (rfl) (rfl) (by omega) (by omega)).mp c3
                have hvq : shrP (qB Q) (qS Q) t = q := by rw [hv, show MM - o = 0 by omega]; rfl
                obtain ⟨nn0, hn0, hne⟩ := shr_nI hw hwS.1 htn
                rw [hvq] at hne
                subst hne
                obtain ⟨oo, hoo, hoo1, hoe⟩ : ∃ oo, oo ≤ 24 ∧ 0 < oo ∧ mm_or (qB Q).1.2.1 = nI oo := or_nI1 (by omega)
                refine wp_iload_n dX10_share_127 rfl 3 rfl ?_
                refine wp_aload_n dX10_share_128 rfl 0 rfl ?_
                refine wp_getI fX10_82 rfl (rfl) (by decide) dX10_share_129 ?_
                refine wp_top (x' := nI (qB Q).1.2.1) (hMc.2.1) ?_
                refine wp_callP (e := mm_or ((qB Q).1.2.1)) (mm_siteS (av := [.int (nI (qB Q).1.2.1)]) hC lX10_245 rfl rfl (Nat.le_of_ble_eq_true rfl) dX10_share_132) (c_X10_ways l (k + 4) _ _ _ _ ((qB Q).1.2.1) (by omega)) (by omega) (by decide) ?_
                refine wp_top (x' := nI oo) (hoe) ?_
                refine wp_iload_n dX10_share_135 rfl 2 rfl ?_
                refine wp_callP (e := frcP (nI nn0) (nI oo) u) (mm_siteS (av := [.int (nI nn0), .int (nI oo), .int u]) hC lX10_248 rfl rfl (Nat.le_of_ble_eq_true rfl) dX10_share_136) (c_X10_fraction l (k + 3) _ _ _ _ nn0 oo u (by omega) (by omega) hoo1) (by omega) (by decide) ?_
                exact wp_iret hC rfl rfl dX10_share_139 (pI_ok (by unfold wShare; rw [if_neg c1, nI_clamp (by omega), ← hvq, hoe]; obtain ⟨hX1, hy1⟩ := hX0.scr (hf.N (by decide) (by decide) (by decide)); exact ⟨rfl, hX1, hy0.trans hy1⟩))
              · replace c3 := mt (ix_le (a := MM) (b := o) (rfl) (rfl) (by omega) (by omega)).mpr c3
                refine wp_iload dX10_share_64 4 rfl ?_
                refine wp_iload_n dX10_share_66 rfl 1 rfl ?_
                refine wp_callP (e := bt (nI o) (nI t)) (mm_siteS (av := [.int (nI o), .int (nI t)]) hC lX10_144 rfl rfl (Nat.le_of_ble_eq_true rfl) dX10_share_67) (c_X10_has l (k + 4) _ _ _ _ (nI o) (nI t)) (by omega) (by decide) ?_
                refine wp_if_ne 121 dX10_share_70 (by decide) (fun c4 => ?_) (fun c4 => ?_)
                · refine wp_iinc (v := nI (o + 1)) 4 rfl (by exact nI_1 o) [1, 2, 3, 4, 0] (by decide) rfl rfl rfl dX10_share_121 ?_
                  refine wp_goto 53 dX10_share_124 (by decide) ?_
                  exact ih_l2 (o + 1) q (by omega) (by rw [hv, foldl_go (by omega), shrS, if_neg c4]) (by omega)
                · have hbo := bc_sub (qB Q).1.2.1 hw1.2.1 t htn o (by rw [← hMM]; omega) c4
                  have hon := or_nat (qB Q).1.2.1 hw1.2.1 o (by rw [← hMM]; omega) t htn
                  rw [← hMM] at hon
                  refine wp_iload dX10_share_73 4 rfl ?_
                  refine wp_callP (e := nI (bc o)) (mm_siteS (av := [.int (nI o)]) hC lX10_228 rfl rfl (Nat.le_of_ble_eq_true rfl) dX10_share_75) (c_X10_many l (k + 4) _ _ _ _ o (by omega)) (by omega) (by decide) ?_
                  refine wp_top (x' := nI (bc o)) (rfl) ?_
                  refine wp_istore [1, 2, 3, 4, 5, 0] (by decide) rfl rfl rfl dX10_share_78 ?_
                  refine wp_iload_n dX10_share_80 rfl 3 rfl ?_
                  refine wp_iload dX10_share_81 5 rfl ?_
                  refine wp_callP (e := mm_or (bc o)) (mm_siteS (av := [.int (nI (bc o))]) hC lX10_245 rfl rfl (Nat.le_of_ble_eq_true rfl) dX10_share_83) (c_X10_ways l (k + 4) _ _ _ _ (bc o) (by omega)) (by omega) (by decide) ?_
                  refine wp_aload_n dX10_share_86 rfl 0 rfl ?_
                  refine wp_getI fX10_82 rfl (rfl) (by decide) dX10_share_87 ?_
                  refine wp_top (x' := nI (qB Q).1.2.1) (hMc.2.1) ?_
                  refine wp_iconst (v := 1) dX10_share_90 (by decide) ?_
                  refine wp_isub dX10_share_91 ?_
                  refine wp_top (x' := nI ((qB Q).1.2.1 - 1)) (ix_sub (a := (qB Q).1.2.1) (b := 1) rfl rfl (by omega)) ?_
                  refine wp_iload dX10_share_92 5 rfl ?_
                  refine wp_isub dX10_share_94 ?_
                  refine wp_top (x' := nI ((qB Q).1.2.1 - 1 - bc o)) (ix_sub (a := (qB Q).1.2.1 - 1) (b := bc o) rfl rfl (by omega)) ?_
                  refine wp_callP (e := mm_or ((qB Q).1.2.1 - 1 - bc o)) (mm_siteS (av := [.int (nI ((qB Q).1.2.1 - 1 - bc o))]) hC lX10_245 rfl rfl (Nat.le_of_ble_eq_true rfl) dX10_share_95) (c_X10_ways l (k + 4) _ _ _ _ ((qB Q).1.2.1 - 1 - bc o) (by omega)) (by omega) (by decide) ?_
                  refine wp_imul dX10_share_98 ?_
                  refine wp_aload_n dX10_share_99 rfl 0 rfl ?_
                  refine wp_getO (q := 143) fX10_68 hR rfl (rfl) (by decide) (by decide) rfl dX10_share_100 ?_
                  refine wp_iload dX10_share_103 4 rfl ?_
                  refine wp_iconst (v := 1) dX10_share_105 (by decide) ?_
                  refine wp_iload_n dX10_share_106 rfl 1 rfl ?_
                  refine wp_ishl dX10_share_107 ?_
                  refine wp_ior dX10_share_108 ?_
                  refine wp_top (x' := nI (o ||| 2 ^ t)) (hon.1) ?_
                  refine wp_iald (o ||| 2 ^ t) (rfl) (rfl) (by decide) ((show o ||| 2 ^ t < 16 from by omega)) dX10_share_109 ?_
                  refine wp_top (x' := (mtP (qB Q) (qS Q) (nI (o ||| 2 ^ t))).1) (hval _ (by omega)) ?_
                  refine wp_aload_n dX10_share_110 rfl 0 rfl ?_
                  refine wp_getO (q := 143) fX10_68 hR rfl (rfl) (by decide) (by decide) rfl dX10_share_111 ?_
                  refine wp_iload dX10_share_114 4 rfl ?_
                  refine wp_iald o (rfl) (rfl) (by decide) ((show o < 16 from by omega)) dX10_share_116 ?_
                  refine wp_top (x' := (mtP (qB Q) (qS Q) (nI o)).1) (hval o (by omega)) ?_
                  refine wp_isub dX10_share_117 ?_
                  refine wp_imul dX10_share_118 ?_
                  refine wp_iadd dX10_share_119 ?_
                  refine wp_istore_n [1, 2, 3, 0, 5, 6] (by decide) rfl rfl rfl dX10_share_120 rfl ?_
                  refine wp_iinc (v := nI (o + 1)) 4 rfl (by exact nI_1 o) [1, 2, 3, 4, 0, 6] (by decide) rfl rfl rfl dX10_share_121 ?_
                  refine wp_goto 53 dX10_share_124 (by decide) ?_
                  refine wp_lv [0, 1, 2, 3, 4] rfl ?_
                  exact ih_l2 (o + 1) _ (by omega) (by rw [hv, foldl_go (by omega), shrS, if_pos c4, mul4, hon.1, show (qB Q).1.2.1 - 1 - bc o = (qB Q).1.2.1 - bc o - 1 by omega]) (by omega)
          exact l2 (MM + 1) 0 0 (Nat.zero_le _) (by rw [hMM]; rfl) (by omega)
        · replace c2 := mt (ix_le (a := MM) (b := o) (rfl) (rfl) (by omega) (by omega)).mpr c2
          refine wp_aload_n dX10_share_27 rfl 0 rfl ?_
          refine wp_iload_n dX10_share_28 rfl 3 rfl ?_
          refine wp_callV (mm_siteV (av := [.int (nI o)]) hC lX10_231 (rfl) (by decide) ⟨_, rfl, rfl⟩ rfl rfl (Nat.le_of_ble_eq_true rfl) dX10_share_29) (c_X10_findMatch l k _ _ _ _ (nI o) (qS Q) (qB Q) hR hMc hw hPc hwS.1 hwS.2.2.2) (by omega) (by decide) (by decide) ?_
          rintro F2 A2 _ _ ⟨hq, hf2, rfl, rfl⟩
          have hA2 : ∀ r, r ≠ 132 → r ≠ 140 → r ≠ 141 → A2 r = A1 r := fun r a b c => hf2.2.2 r a b c a
          have hMc := hf2.m (by decide) (by decide) (by decide) hMc
          refine wp_aload_n dX10_share_32 rfl 0 rfl ?_
          refine wp_getO (q := 143) fX10_68 hR rfl (rfl) (by decide) (by decide) rfl dX10_share_33 ?_
          refine wp_iload_n dX10_share_36 rfl 3 rfl ?_
          refine wp_aload_n dX10_share_37 rfl 0 rfl ?_
          refine wp_getI fX10_222 rfl (rfl) (by decide) dX10_share_38 ?_
          refine wp_top (x' := (mtP (qB Q) (qS Q) (nI o)).1) (congrArg Prod.fst hq) ?_
          refine wp_iast o (rfl) (rfl) (by decide) ((show o < 16 from by omega)) dX10_share_41 ?_
          refine wp_iinc (v := nI (o + 1)) 3 rfl (by exact nI_1 o) [1, 2, 3, 0] (by decide) rfl rfl rfl dX10_share_42 ?_
          refine wp_goto 17 dX10_share_45 (by decide) ?_
          exact ih_lp (o + 1) F2 _ (by omega) (fun j hj => by rw [u2_row]; by_cases e : j = o; (rw [e, va_up_self]); (rw [va_up_ne _ _ e, hA2 143 (by decide) (by decide) (by decide)]; exact hval j (by omega))) (hf.trans ((show frG 35 36 143 F1 A1 F2 A2 from ⟨hf2.1, hf2.2.1, fun r a b c _ => hA2 r a b c⟩).trans (frG.A (Or.inr rfl) (fun r hr => u2_ne hr)))) (by omega)
    exact lp (MM + 1) 0 F0 A (Nat.zero_le _) (fun _ h => absurd h (Nat.not_lt_zero _)) (frG.refl _ _ _ _ _) (by omega)
  · rw [ite01, Classical.not_not] at c1
    refine wp_iconst (v := (-1)) dX10_share_13 (by decide) ?_
    exact wp_iret hC rfl rfl dX10_share_14 (pI_ok ⟨by unfold wShare; rw [if_pos c1], hX0, hy0⟩)

