set_option maxRecDepth 100000 in
set_option maxHeartbeats 600000 in
theorem c_X9_commonDivisor (l : Launch) (k : Nat) (F A : mmF) (R : mmR) (G : mmG) (a b : Nat) (ha : a < 2 ^ 31) (hb : b < 2 ^ 31) (hab : a * b ≤ 2 ^ 39) : Meets l hX9_commonDivisor k 144 144 [.int (nI a), .int (nI b)] F A R G (pP (nI (Nat.gcd a b)) F A R G) := by
  refine mm_start rfl (Nat.le_of_ble_eq_true rfl) (fun X hC => ?_)
  show WP hX9_commonDivisor X 144 0 [(0, .int (nI a)), (1, .int (nI b))] [] F A R G
  refine wp_iload_n dX9_commonDivisor_0 rfl 0 rfl ?_
  refine wp_istore_n [1, 2, 0] (by decide) rfl rfl rfl dX9_commonDivisor_1 rfl ?_
  refine wp_iload_n dX9_commonDivisor_2 rfl 1 rfl ?_
  refine wp_istore_n [1, 2, 3, 0] (by decide) rfl rfl rfl dX9_commonDivisor_3 rfl ?_
  refine wp_iconst (v := 0) dX9_commonDivisor_4 (by decide) ?_
  refine wp_istore [1, 2, 3, 4, 0] (by decide) rfl rfl rfl dX9_commonDivisor_5 ?_
  have lp : ∀ (nn : Nat) (i x y : Nat), (i ≤ 64) → (x < 2 ^ 31 ∧ y < 2 ^ 31) → (eucP a b i x y) → 64 - i < nn → WP hX9_commonDivisor X 144 7 [(0, .int (nI a)), (1, .int (nI b)), (2, .int (nI x)), (3, .int (nI y)), (4, .int (nI i))] [] F A R G := by
    intro nn
    induction nn with
    | zero => intro i x y _ _ _ hm; exact absurd hm (Nat.not_lt_zero _)
    | succ nn ih_lp =>
      intro i x y hi hx hv hm_lp
      refine wp_iload dX9_commonDivisor_7 4 rfl ?_
      refine wp_bipush (v := 64) dX9_commonDivisor_9 (by decide) ?_
      refine wp_icmp_ge 34 dX9_commonDivisor_11 (by decide) (fun c1 => ?_) (fun c1 => ?_)
      · replace c1 := (ix_le (a := 64) (b := i) (rfl) (rfl) (by omega) (by omega)).mp c1
        refine wp_iload_n dX9_commonDivisor_34 rfl 2 rfl ?_
        exact wp_iret hC rfl rfl dX9_commonDivisor_35 (pP_ok (by rw [← hv.1, show y = 0 from by (first | exact c2 | exact eucP_end ((show i = 64 by omega) ▸ hv)), Nat.gcd_zero_right]))
      · replace c1 := mt (ix_le (a := 64) (b := i) (rfl) (rfl) (by omega) (by omega)).mpr c1
        refine wp_iload_n dX9_commonDivisor_14 rfl 3 rfl ?_
        refine wp_if_eq 34 dX9_commonDivisor_15 (by decide) (fun c2 => ?_) (fun c2 => ?_)
        · replace c2 := (ix_eq (a := y) (b := 0) (rfl) (rfl) (by omega) (by omega)).mp c2
          refine wp_iload_n dX9_commonDivisor_34 rfl 2 rfl ?_
          exact wp_iret hC rfl rfl dX9_commonDivisor_35 (pP_ok (by rw [← hv.1, show y = 0 from by (first | exact c2 | exact eucP_end ((show i = 64 by omega) ▸ hv)), Nat.gcd_zero_right]))
        · replace c2 := mt (ix_eq (a := y) (b := 0) (rfl) (rfl) (by omega) (by omega)).mpr c2
          refine wp_iload_n dX9_commonDivisor_18 rfl 2 rfl ?_
          refine wp_iload_n dX9_commonDivisor_19 rfl 3 rfl ?_
          refine wp_irem dX9_commonDivisor_20 (nI_ne0 (by omega) hx.2) ?_
          refine wp_top (x' := nI (x % y)) (ix_rem (a := x) (b := y) rfl rfl hx.1 (by omega) hx.2) ?_
          refine wp_istore [1, 2, 3, 4, 5, 0] (by decide) rfl rfl rfl dX9_commonDivisor_21 ?_
          refine wp_iload_n dX9_commonDivisor_23 rfl 3 rfl ?_
          refine wp_istore_n [1, 2, 0, 4, 5, 6] (by decide) rfl rfl rfl dX9_commonDivisor_24 rfl ?_
          refine wp_iload dX9_commonDivisor_25 5 rfl ?_
          refine wp_istore_n [1, 2, 3, 0, 5, 6] (by decide) rfl rfl rfl dX9_commonDivisor_27 rfl ?_
          refine wp_iinc (v := nI (i + 1)) 4 rfl (by exact nI_1 i) [1, 2, 3, 4, 0, 6] (by decide) rfl rfl rfl dX9_commonDivisor_28 ?_
          refine wp_goto 7 dX9_commonDivisor_31 (by decide) ?_
          refine wp_lv [0, 1, 2, 3, 4] rfl ?_
          exact ih_lp (i + 1) y (x % y) (by omega) ⟨hx.2, Nat.lt_trans (Nat.mod_lt _ (by omega)) hx.2⟩ (eucP_go hab hv (by omega)) (by omega)
  exact lp (64 + 1) 0 a b (by decide) ⟨ha, hb⟩ ⟨rfl, Or.inl ⟨rfl, rfl, rfl⟩⟩ (by omega)

set_option maxRecDepth 100000 in
set_option maxHeartbeats 600000 in
theorem c_X9_inLeastTerms (l : Launch) (k : Nat) (F A : mmF) (R : mmR) (G : mmG) (a b : Nat) (u : Int32) (ha : a < 2 ^ 31) (hb : b < 2 ^ 31) (hb0 : 0 < b) (hab : a * b ≤ 2 ^ 39) : Meets l hX9_inLeastTerms (k + 1) 144 144 [.int (nI a), .int (nI b), .int u] F A R G (pP (frcP (nI a) (nI b) u) F A R G) := by
  refine mm_start rfl (Nat.le_of_ble_eq_true rfl) (fun X hC => ?_)
  show WP hX9_inLeastTerms X 144 0 [(0, .int (nI a)), (1, .int (nI b)), (2, .int u)] [] F A R G
  have hg0 : 0 < Nat.gcd a b := Nat.gcd_pos_of_pos_right _ hb0
  have hgl : Nat.gcd a b < 2 ^ 31 := Nat.lt_of_le_of_lt (Nat.gcd_le_right _ hb0) hb
  refine wp_iload_n dX9_inLeastTerms_0 rfl 0 rfl ?_
  refine wp_iload_n dX9_inLeastTerms_1 rfl 1 rfl ?_
  refine wp_callP (e := nI (Nat.gcd a b)) (mm_siteS (av := [.int (nI a), .int (nI b)]) hC lX9_310 rfl rfl (Nat.le_of_ble_eq_true rfl) dX9_inLeastTerms_2) (c_X9_commonDivisor l k _ _ _ _ a b ha hb hab) (by omega) (by decide) ?_
  refine wp_istore_n [1, 2, 3, 0] (by decide) rfl rfl rfl dX9_inLeastTerms_5 rfl ?_
  refine wp_iload_n dX9_inLeastTerms_6 rfl 3 rfl ?_
  refine wp_if_ne 12 dX9_inLeastTerms_7 (by decide) (fun c1 => ?_) (fun c1 => ?_)
  · refine wp_iload_n dX9_inLeastTerms_12 rfl 2 rfl ?_
    refine wp_if_eq 20 dX9_inLeastTerms_13 (by decide) (fun c2 => ?_) (fun c2 => ?_)
    · refine wp_iload_n dX9_inLeastTerms_20 rfl 1 rfl ?_
      refine wp_iload_n dX9_inLeastTerms_21 rfl 3 rfl ?_
      refine wp_idiv dX9_inLeastTerms_22 (nI_ne0 hg0 hgl) ?_
      exact wp_iret hC rfl rfl dX9_inLeastTerms_23 (pP_ok (by rw [frc_nI ha hb, if_pos c2, pk_div (by omega) hg0 hgl]))
    · refine wp_iload_n dX9_inLeastTerms_16 rfl 0 rfl ?_
      refine wp_goto 21 dX9_inLeastTerms_17 (by decide) ?_
      refine wp_iload_n dX9_inLeastTerms_21 rfl 3 rfl ?_
      refine wp_idiv dX9_inLeastTerms_22 (nI_ne0 hg0 hgl) ?_
      exact wp_iret hC rfl rfl dX9_inLeastTerms_23 (pP_ok (by rw [frc_nI ha hb, if_neg c2, pk_div (by omega) hg0 hgl]))
  · exact absurd c1 (nI_ne0 hg0 hgl)

theorem or_nI1 {m : Nat} (h : m < 5) : ∃ n, n ≤ 24 ∧ 0 < n ∧ mm_or m = nI n := by
  rcases (show m = 0 ∨ m = 1 ∨ m = 2 ∨ m = 3 ∨ m = 4 by omega) with rfl | rfl | rfl | rfl | rfl
  · exact ⟨1, by decide, by decide, rfl⟩
  · exact ⟨1, by decide, by decide, rfl⟩
  · exact ⟨2, by decide, by decide, rfl⟩
  · exact ⟨6, by decide, by decide, rfl⟩
  · exact ⟨24, by decide, by decide, rfl⟩
set_option maxRecDepth 100000 in
set_option maxHeartbeats 600000 in
theorem c_X9_share (l : Launch) (k : Nat) (F A : mmF) (R : mmR) (G : mmG) (x u : Int32) (Q : QV) (hX : RepX F A R G Q) (hwf : wfQ Q) : Meets l hX9_share (k + 17) 144 144 [.ref 0, .int x, .int u] F A R G (pI (fun v F1 A1 R1 G1 => v = wShare Q x u ∧ RepX F1 A1 R1 G1 Q ∧ frX F A R G F1 A1 R1 G1)) := by
  refine mm_start rfl (Nat.le_of_ble_eq_true rfl) (fun X hC => ?_)
  show WP hX9_share X 144 0 [(0, .ref 0), (1, .int x), (2, .int u)] [] F A R G
  obtain ⟨b, d, fi, hR, ⟨hRb, hRd, hb, hd, hbd⟩, ⟨hn, ht⟩, hB, hS, ⟨ha1, ha2, hfi, hac⟩, ⟨he, hes⟩, hk, hg⟩ := id hX
  obtain ⟨hw60, hw, hwS, hwA, hwE, hwK⟩ := id hwf
  have hw1 := hw.1
  have hb2 := bo_f hb
  have hd2 := bo_f hd
  obtain ⟨M, hM⟩ : ∃ M, M = 2 ^ (qB Q).1.2.1 := ⟨_, rfl⟩
  have hM16 : M ≤ 16 := by rw [hM]; exact (Nat.pow_le_pow_right (by decide) hw1.2.1 : 2 ^ (qB Q).1.2.1 ≤ 2 ^ 4)
  have hB0 := hB
  have hS0 := hS
  refine wp_aload_n dX9_share_0 rfl 0 rfl ?_
  refine wp_getR (q := b) fX9_68 rfl (rfl) (by decide) (hRb) dX9_share_1 ?_
  refine wp_iload_n dX9_share_4 rfl 1 rfl ?_
  refine wp_callP (e := isIn x (nI (qB Q).1.2.1)) (mm_siteV (av := [.int x]) hC lX9_154 (hb) (bo_l0 hb) ⟨_, rfl, rfl⟩ rfl rfl (Nat.le_of_ble_eq_true rfl) dX9_share_5) (cB_isThrower l (k + 16) _ _ _ _ _ _ (qB Q) hb hB) (by omega) (by decide) ?_
  refine wp_if_ne 13 dX9_share_8 (by decide) (fun c1 => ?_) (fun c1 => ?_)
  · obtain ⟨t, htn, rfl⟩ := isIn_nat (by omega) c1
    refine wp_iconst (v := 0) dX9_share_13 (by decide) ?_
    refine wp_istore_n [1, 2, 3, 0] (by decide) rfl rfl rfl dX9_share_14 rfl ?_
    refine wp_iconst (v := 0) dX9_share_15 (by decide) ?_
    refine wp_istore [1, 2, 3, 4, 0] (by decide) rfl rfl rfl dX9_share_16 ?_
    have lp : ∀ (nn : Nat) (o : Nat) (q : Int32) (F1 A1 : mmF), (o ≤ M) → (shrP (qB Q) (qS Q) t = (List.range' o (M - o)).foldl (shrS (qB Q) (qS Q) t) q) → (frI 63 79 F A F1 A1) → M - o < nn → WP hX9_share X 144 18 [(0, .ref 0), (1, .int (nI t)), (2, .int u), (3, .int q), (4, .int (nI o))] [] F1 A1 R G := by
      intro nn
      induction nn with
      | zero => intro o q F1 A1 _ _ _ hm; exact absurd hm (Nat.not_lt_zero _)
      | succ nn ih_lp =>
        intro o q F1 A1 ho hv hf hm_lp
        have hB := hf.b (by omega) hB0
        have hS := hf.s (c := 3) (by decide) hS0
        refine wp_iload dX9_share_18 4 rfl ?_
        refine wp_iconst (v := 1) dX9_share_20 (by decide) ?_
        refine wp_aload_n dX9_share_21 rfl 0 rfl ?_
        refine wp_getR (q := b) fX9_68 rfl (rfl) (by decide) (hRb) dX9_share_22 ?_
        refine wp_getI fX9_102 rfl (hb) (bo_l0 hb) dX9_share_25 ?_
        refine wp_top (x' := nI (qB Q).1.2.1) (hB.1.2.1) ?_
        refine wp_ishl dX9_share_28 ?_
        refine wp_top (x' := nI M) ((sh_nI (by omega)).trans (by rw [hM])) ?_
        refine wp_icmp_ge 122 dX9_share_29 (by decide) (fun c2 => ?_) (fun c2 => ?_)
        · replace c2 := (ix_le (a := M) (b := o) (rfl) (rfl) (by omega) (by omega)).mp c2
          have hvq : shrP (qB Q) (qS Q) t = q := by rw [hv, show M - o = 0 by omega]; rfl
          obtain ⟨nn0, hn0, hne⟩ := shr_nI hw hwS.1 htn
          rw [hvq] at hne
          subst hne
          obtain ⟨oo, hoo, hoo1, hoe⟩ : ∃ oo, oo ≤ 24 ∧ 0 < oo ∧ mm_or (qB Q).1.2.1 = nI oo := or_nI1 (by omega)
          refine wp_iload_n dX9_share_122 rfl 3 rfl ?_
          refine wp_aload_n dX9_share_123 rfl 0 rfl ?_
          refine wp_getR (q := b) fX9_68 rfl (rfl) (by decide) (hRb) dX9_share_124 ?_
          refine wp_getI fX9_102 rfl (hb) (bo_l0 hb) dX9_share_127 ?_
          refine wp_top (x' := nI (qB Q).1.2.1) (hB.1.2.1) ?_
          refine wp_callP (e := mm_or ((qB Q).1.2.1)) (mm_siteS (av := [.int (nI (qB Q).1.2.1)]) hC lX9_239 rfl rfl (Nat.le_of_ble_eq_true rfl) dX9_share_130) (c_X9_ordersOf l (k + 15) _ _ _ _ ((qB Q).1.2.1) (by omega)) (by omega) (by decide) ?_
          refine wp_top (x' := nI oo) (hoe) ?_
          refine wp_iload_n dX9_share_133 rfl 2 rfl ?_
          refine wp_callP (e := frcP (nI nn0) (nI oo) u) (mm_siteS (av := [.int (nI nn0), .int (nI oo), .int u]) hC lX9_242 rfl rfl (Nat.le_of_ble_eq_true rfl) dX9_share_134) (c_X9_inLeastTerms l (k + 14) _ _ _ _ nn0 oo u (by omega) (by omega) hoo1 (Nat.le_trans (Nat.mul_le_mul hn0 hoo) (by decide))) (by omega) (by decide) ?_
          exact wp_iret hC rfl rfl dX9_share_137 (pI_ok (by unfold wShare; rw [if_neg c1, nI_clamp (by omega), ← hvq, hoe]; exact ⟨rfl, hX.scr (hf.wide (by decide) (by decide))⟩))
        · replace c2 := mt (ix_le (a := M) (b := o) (rfl) (rfl) (by omega) (by omega)).mpr c2
          refine wp_iload dX9_share_32 4 rfl ?_
          refine wp_iload_n dX9_share_34 rfl 1 rfl ?_
          refine wp_callP (e := bt (nI o) (nI t)) (mm_siteS (av := [.int (nI o), .int (nI t)]) hC lX9_147 rfl rfl (Nat.le_of_ble_eq_true rfl) dX9_share_35) (c_X9_bit l (k + 15) _ _ _ _ _ _) (by omega) (by decide) ?_
          refine wp_if_ne 116 dX9_share_38 (by decide) (fun c3 => ?_) (fun c3 => ?_)
          · refine wp_iinc (v := nI (o + 1)) 4 rfl (by exact nI_1 o) [1, 2, 3, 4, 0] (by decide) rfl rfl rfl dX9_share_116 ?_
            refine wp_goto 18 dX9_share_119 (by decide) ?_
            exact ih_lp (o + 1) _ F1 A1 (by omega) (by rw [hv, foldl_go (by omega), shrS]; simp only [*, if_true, if_false]; try rfl) hf (by omega)
          · have hbo := bc_sub (qB Q).1.2.1 hw1.2.1 t htn o (by rw [← hM]; omega) c3
            refine wp_aload_n dX9_share_41 rfl 0 rfl ?_
            refine wp_getO (q := 63) fX9_47 hR rfl (rfl) (by decide) (by decide) rfl dX9_share_42 ?_
            refine wp_aload_n dX9_share_45 rfl 0 rfl ?_
            refine wp_getR (q := b) fX9_68 rfl (rfl) (by decide) (hRb) dX9_share_46 ?_
            refine wp_aload_n dX9_share_49 rfl 0 rfl ?_
            refine wp_getO (q := 3) fX9_19 hR rfl (rfl) (by decide) (by decide) rfl dX9_share_50 ?_
            refine wp_iload dX9_share_53 4 rfl ?_
            refine wp_iconst (v := 1) dX9_share_55 (by decide) ?_
            refine wp_iload_n dX9_share_56 rfl 1 rfl ?_
            refine wp_ishl dX9_share_57 ?_
            refine wp_ior dX9_share_58 ?_
            refine wp_callI (mm_siteV (av := [.ref b, .ref 3, .int ((nI o) ||| (1 <<< ((nI t) &&& 31)))]) hC lX9_215 (rfl) (by decide) ⟨_, rfl, rfl⟩ rfl rfl (Nat.le_of_ble_eq_true rfl) dX9_share_59) (c_X4_matchAmong l k _ _ _ _ b _ (qS Q) (qB Q) hR hb hS hB hw hwS.1) (by omega) (by decide) ?_
            rintro _ F2 A2 _ _ ⟨rfl, -, hg2, rfl, rfl⟩
            have hf := hf.trans (fun r hr => ⟨(hg2 r (by omega)).1 (by omega), (hg2 r (by omega)).2⟩)
            have hB := hf.b (by omega) hB0
            have hS := hf.s (c := 3) (by decide) hS0
            refine wp_aload_n dX9_share_62 rfl 0 rfl ?_
            refine wp_getO (q := 63) fX9_47 hR rfl (rfl) (by decide) (by decide) rfl dX9_share_63 ?_
            refine wp_aload_n dX9_share_66 rfl 0 rfl ?_
            refine wp_getR (q := b) fX9_68 rfl (rfl) (by decide) (hRb) dX9_share_67 ?_
            refine wp_aload_n dX9_share_70 rfl 0 rfl ?_
            refine wp_getO (q := 3) fX9_19 hR rfl (rfl) (by decide) (by decide) rfl dX9_share_71 ?_
            refine wp_iload dX9_share_74 4 rfl ?_
            refine wp_callI (mm_siteV (av := [.ref b, .ref 3, .int (nI o)]) hC lX9_215 (rfl) (by decide) ⟨_, rfl, rfl⟩ rfl rfl (Nat.le_of_ble_eq_true rfl) dX9_share_76) (c_X4_matchAmong l k _ _ _ _ b _ (qS Q) (qB Q) hR hb hS hB hw hwS.1) (by omega) (by decide) ?_
            rintro _ F3 A3 _ _ ⟨rfl, -, hg3, rfl, rfl⟩
            have hf := hf.trans (fun r hr => ⟨(hg3 r (by omega)).1 (by omega), (hg3 r (by omega)).2⟩)
            have hB := hf.b (by omega) hB0
            have hS := hf.s (c := 3) (by decide) hS0
            refine wp_isub dX9_share_79 ?_
            refine wp_istore [1, 2, 3, 4, 5, 0] (by decide) rfl rfl rfl dX9_share_80 ?_
            refine wp_iload dX9_share_82 4 rfl ?_
            refine wp_callP (mm_siteS (av := [.int (nI o)]) hC lX9_234 rfl rfl (Nat.le_of_ble_eq_true rfl) dX9_share_84) (c_J6_bitCount l (k + 15) _ _ _ _ o (by omega)) (by omega) (by decide) ?_
            refine wp_istore [1, 2, 3, 4, 5, 6, 0] (by decide) rfl rfl rfl dX9_share_87 ?_
            refine wp_iload_n dX9_share_89 rfl 3 rfl ?_
            refine wp_iload dX9_share_90 5 rfl ?_
            refine wp_iload dX9_share_92 6 rfl ?_
            refine wp_callP (e := mm_or (bc o)) (mm_siteS (av := [.int (nI (bc o))]) hC lX9_239 rfl rfl (Nat.le_of_ble_eq_true rfl) dX9_share_94) (c_X9_ordersOf l (k + 15) _ _ _ _ (bc o) (by omega)) (by omega) (by decide) ?_
            refine wp_imul dX9_share_97 ?_
            refine wp_aload_n dX9_share_98 rfl 0 rfl ?_
            refine wp_getR (q := b) fX9_68 rfl (rfl) (by decide) (hRb) dX9_share_99 ?_
            refine wp_getI fX9_102 rfl (hb) (bo_l0 hb) dX9_share_102 ?_
            refine wp_top (x' := nI (qB Q).1.2.1) (hB.1.2.1) ?_
            refine wp_iload dX9_share_105 6 rfl ?_
            refine wp_isub dX9_share_107 ?_
            refine wp_top (x' := nI ((qB Q).1.2.1 - bc o)) (ix_sub (a := (qB Q).1.2.1) (b := bc o) rfl rfl (by omega)) ?_
            refine wp_iconst (v := 1) dX9_share_108 (by decide) ?_
            refine wp_isub dX9_share_109 ?_
            refine wp_top (x' := nI ((qB Q).1.2.1 - bc o - 1)) (ix_sub (a := (qB Q).1.2.1 - bc o) (b := 1) rfl rfl (by omega)) ?_
            refine wp_callP (e := mm_or ((qB Q).1.2.1 - bc o - 1)) (mm_siteS (av := [.int (nI ((qB Q).1.2.1 - bc o - 1))]) hC lX9_239 rfl rfl (Nat.le_of_ble_eq_true rfl) dX9_share_110) (c_X9_ordersOf l (k + 15) _ _ _ _ ((qB Q).1.2.1 - bc o - 1) (by omega)) (by omega) (by decide) ?_
            refine wp_imul dX9_share_113 ?_
            refine wp_iadd dX9_share_114 ?_
            refine wp_istore_n [1, 2, 3, 0, 5, 6, 7] (by decide) rfl rfl rfl dX9_share_115 rfl ?_
            refine wp_iinc (v := nI (o + 1)) 4 rfl (by exact nI_1 o) [1, 2, 3, 4, 0, 6, 7] (by decide) rfl rfl rfl dX9_share_116 ?_
            refine wp_goto 18 dX9_share_119 (by decide) ?_
            refine wp_lv [0, 1, 2, 3, 4] rfl ?_
            exact ih_lp (o + 1) _ F3 A3 (by omega) (by rw [hv, foldl_go (by omega), shrS]; simp only [*, if_true, if_false]; try rfl) hf (by omega)
    exact lp (M + 1) 0 0 F A (Nat.zero_le _) (by rw [hM]; rfl) (frI.refl _ _ F A) (by omega)
  · refine wp_iconst (v := (-1)) dX9_share_11 (by decide) ?_
    exact wp_iret hC rfl rfl dX9_share_12 (pI_ok (by unfold wShare; rw [if_pos c1]; exact ⟨rfl, hX, frX.refl _ _ _ _⟩))

set_option maxRecDepth 100000 in
set_option maxHeartbeats 600000 in
theorem c_X9_see (l : Launch) (k : Nat) (F A : mmF) (R : mmR) (G : mmG) (x y z : Int32) (Q : QV) (hX : RepX F A R G Q) (hwf : wfQ Q) : Meets l hX9_see (k + 1) 144 144 [.ref 0, .int x, .int y, .int z] F A R G (pI (fun v F1 A1 R1 G1 => v = (wSee Q x y z).2 ∧ RepX F1 A1 R1 G1 (wSee Q x y z).1 ∧ frX F A R G F1 A1 R1 G1)) := by
  refine mm_start rfl (Nat.le_of_ble_eq_true rfl) (fun X hC => ?_)
  show WP hX9_see X 144 0 [(0, .ref 0), (1, .int x), (2, .int y), (3, .int z)] [] F A R G
  obtain ⟨b, d, fi, hR, ⟨hRb, hRd, hb, hd, hbd⟩, ⟨hn, ht⟩, hB, hS, ⟨ha1, ha2, hfi, hac⟩, ⟨he, hes⟩, hk, hg⟩ := id hX
  obtain ⟨hw60, hw, hwS, hwA, hwE, hwK⟩ := id hwf
  have hw1 := hw.1
  have hb2 := bo_f hb
  have hd2 := bo_f hd
  refine wp_aload_n dX9_see_0 rfl 0 rfl ?_
  refine wp_getR (q := b) fX9_68 rfl (rfl) (by decide) (hRb) dX9_see_1 ?_
  refine wp_iload_n dX9_see_4 rfl 1 rfl ?_
  refine wp_callP (e := isIn x (nI (qB Q).1.1)) (mm_siteV (av := [.int x]) hC lX9_121 (hb) (bo_l0 hb) ⟨_, rfl, rfl⟩ rfl rfl (Nat.le_of_ble_eq_true rfl) dX9_see_5) (cB_isHusk l k _ _ _ _ _ _ (qB Q) hb hB) (by omega) (by decide) ?_
  refine wp_if_ne 13 dX9_see_8 (by decide) (fun c1 => ?_) (fun c1 => ?_)
  · refine wp_iload_n dX9_see_13 rfl 2 rfl ?_
    refine wp_iconst (v := 1) dX9_see_14 (by decide) ?_
    refine wp_icmp_lt 33 dX9_see_15 (by decide) (fun c2 => ?_) (fun c2 => ?_)
    · refine wp_bipush (v := (-2)) dX9_see_33 (by decide) ?_
      exact wp_iret hC rfl rfl dX9_see_35 (pI_ok (by unfold wSee; (first | rw [if_neg c1, if_pos c2] | rw [if_neg c1, if_neg c2, if_pos c3] | rw [if_neg c1, if_neg c2, if_neg c3, if_pos c4] | rw [if_neg c1, if_neg c2, if_neg c3, if_neg c4, if_neg c5]); exact ⟨rfl, hX, frX.refl _ _ _ _⟩))
    · refine wp_iload_n dX9_see_18 rfl 2 rfl ?_
      refine wp_bipush (v := 11) dX9_see_19 (by decide) ?_
      refine wp_icmp_gt 33 dX9_see_21 (by decide) (fun c3 => ?_) (fun c3 => ?_)
      · refine wp_bipush (v := (-2)) dX9_see_33 (by decide) ?_
        exact wp_iret hC rfl rfl dX9_see_35 (pI_ok (by unfold wSee; (first | rw [if_neg c1, if_pos c2] | rw [if_neg c1, if_neg c2, if_pos c3] | rw [if_neg c1, if_neg c2, if_neg c3, if_pos c4] | rw [if_neg c1, if_neg c2, if_neg c3, if_neg c4, if_neg c5]); exact ⟨rfl, hX, frX.refl _ _ _ _⟩))
      · refine wp_iload_n dX9_see_24 rfl 3 rfl ?_
        refine wp_if_lt 33 dX9_see_25 (by decide) (fun c4 => ?_) (fun c4 => ?_)
        · refine wp_bipush (v := (-2)) dX9_see_33 (by decide) ?_
          exact wp_iret hC rfl rfl dX9_see_35 (pI_ok (by unfold wSee; (first | rw [if_neg c1, if_pos c2] | rw [if_neg c1, if_neg c2, if_pos c3] | rw [if_neg c1, if_neg c2, if_neg c3, if_pos c4] | rw [if_neg c1, if_neg c2, if_neg c3, if_neg c4, if_neg c5]); exact ⟨rfl, hX, frX.refl _ _ _ _⟩))
        · refine wp_iload_n dX9_see_28 rfl 3 rfl ?_
          refine wp_iconst (v := 1) dX9_see_29 (by decide) ?_
          refine wp_icmp_le 36 dX9_see_30 (by decide) (fun c5 => ?_) (fun c5 => ?_)
          · refine wp_aload_n dX9_see_36 rfl 0 rfl ?_
            refine wp_getO (q := 50) fX9_33 hR rfl (rfl) (by decide) (by decide) rfl dX9_see_37 ?_
            refine wp_iload_n dX9_see_40 rfl 1 rfl ?_
            refine wp_iload_n dX9_see_41 rfl 2 rfl ?_
            refine wp_iload_n dX9_see_42 rfl 3 rfl ?_
            refine wp_callI (mm_siteV (av := [.int x, .int y, .int z]) hC lX9_246 (rfl) (by decide) ⟨_, rfl, rfl⟩ rfl rfl (Nat.le_of_ble_eq_true rfl) dX9_see_43) (c_X5_append l k _ _ _ _ _ y z (qE Q).1 hR hwE he) (by omega) (by decide) ?_
            rintro _ F1 A1 _ _ ⟨rfl, hF1, hA1, rfl, rfl⟩
            refine wp_if_eq 59 dX9_see_46 (by decide) (fun c6 => ?_) (fun c6 => ?_)
            · rw [ite01] at c6; rw [if_neg c6] at hF1 hA1
              refine wp_bipush (v := (-4)) dX9_see_59 (by decide) ?_
              exact wp_iret hC rfl rfl dX9_see_61 (pI_ok (by unfold wSee; rw [if_neg c1, if_neg c2, if_neg c3, if_neg c4, if_pos c5, if_neg c6, hF1, hA1]; exact ⟨rfl, hX, frX.refl _ _ _ _⟩))
            · rw [ite01, Classical.not_not] at c6; rw [if_pos c6] at hF1 hA1
              refine wp_aload_n dX9_see_49 rfl 0 rfl ?_
              refine wp_getO (q := 50) fX9_33 hR rfl (rfl) (by decide) (by decide) rfl dX9_see_50 ?_
              refine wp_getI fX9_120 rfl (rfl) (by decide) dX9_see_53 ?_
              refine wp_top (x' := nI ((qE Q).1 + 1)) (by rw [hF1]; simp [u2, va_up]) ?_
              refine wp_goto 61 dX9_see_56 (by decide) ?_
              exact wp_iret hC rfl rfl dX9_see_61 (pI_ok (by unfold wSee; rw [if_neg c1, if_neg c2, if_neg c3, if_neg c4, if_pos c5, if_pos c6]; exact ⟨rfl, hX.see (fun r hr => by rw [hF1, hA1]; simp [u2, va_up, show r ≠ 50 by omega, show r ≠ 51 by omega, show r ≠ 52 by omega, show r ≠ 53 by omega]) (by rw [hF1]; simp [u2, va_up]) (fun i hi => by rw [hA1]; by_cases e : i = (qE Q).1 <;> simp [u2, va_up, e]; exact hes i (by omega))⟩))
          · refine wp_bipush (v := (-2)) dX9_see_33 (by decide) ?_
            exact wp_iret hC rfl rfl dX9_see_35 (pI_ok (by unfold wSee; (first | rw [if_neg c1, if_pos c2] | rw [if_neg c1, if_neg c2, if_pos c3] | rw [if_neg c1, if_neg c2, if_neg c3, if_pos c4] | rw [if_neg c1, if_neg c2, if_neg c3, if_neg c4, if_neg c5]); exact ⟨rfl, hX, frX.refl _ _ _ _⟩))
  · refine wp_iconst (v := (-1)) dX9_see_11 (by decide) ?_
    exact wp_iret hC rfl rfl dX9_see_12 (pI_ok (by unfold wSee; rw [if_pos c1]; exact ⟨rfl, hX, frX.refl _ _ _ _⟩))

set_option maxRecDepth 100000 in
set_option maxHeartbeats 600000 in
theorem c_X9_holds (l : Launch) (k : Nat) (F A : mmF) (R : mmR) (G : mmG) (x : Int32) (Q : QV) (hX : RepX F A R G Q) (hwf : wfQ Q) : Meets l hX9_holds (k + 2) 144 144 [.ref 0, .int x] F A R G (pP (wHolds Q x) F A R G) := by
  refine mm_start rfl (Nat.le_of_ble_eq_true rfl) (fun X hC => ?_)
  show WP hX9_holds X 144 0 [(0, .ref 0), (1, .int x)] [] F A R G
  obtain ⟨b, d, fi, hR, ⟨hRb, hRd, hb, hd, hbd⟩, ⟨hn, ht⟩, hB, hS, ⟨ha1, ha2, hfi, hac⟩, ⟨he, hes⟩, hk, hg⟩ := id hX
  obtain ⟨hw60, hw, hwS, hwA, hwE, hwK⟩ := id hwf
  have hw1 := hw.1
  have hb2 := bo_f hb
  have hd2 := bo_f hd
  refine wp_aload_n dX9_holds_0 rfl 0 rfl ?_
  refine wp_getR (q := b) fX9_68 rfl (rfl) (by decide) (hRb) dX9_holds_1 ?_
  refine wp_iload_n dX9_holds_4 rfl 1 rfl ?_
  refine wp_callP (e := isIn x (nI (qB Q).1.1)) (mm_siteV (av := [.int x]) hC lX9_121 (hb) (bo_l0 hb) ⟨_, rfl, rfl⟩ rfl rfl (Nat.le_of_ble_eq_true rfl) dX9_holds_5) (cB_isHusk l (k + 1) _ _ _ _ _ _ (qB Q) hb hB) (by omega) (by decide) ?_
  refine wp_if_ne 13 dX9_holds_8 (by decide) (fun c1 => ?_) (fun c1 => ?_)
  · refine wp_aload_n dX9_holds_13 rfl 0 rfl ?_
    refine wp_getO (q := 50) fX9_33 hR rfl (rfl) (by decide) (by decide) rfl dX9_holds_14 ?_
    refine wp_iload_n dX9_holds_17 rfl 1 rfl ?_
    refine wp_iconst (v := 4) dX9_holds_18 (by decide) ?_
    refine wp_aload_n dX9_holds_19 rfl 0 rfl ?_
    refine wp_getO (q := 3) fX9_19 hR rfl (rfl) (by decide) (by decide) rfl dX9_holds_20 ?_
    refine wp_getI fX9_151 rfl (rfl) (by decide) dX9_holds_23 ?_
    refine wp_top (x' := (qS Q).2.2 4) (hS.2.2.2.2.1) ?_
    refine wp_iload_n dX9_holds_26 rfl 1 rfl ?_
    refine wp_callP (e := bt ((qS Q).2.2 4) x) (mm_siteS (av := [.int ((qS Q).2.2 4), .int x]) hC lX9_147 rfl rfl (Nat.le_of_ble_eq_true rfl) dX9_holds_27) (c_X9_bit l (k + 1) _ _ _ _ _ _) (by omega) (by decide) ?_
    refine wp_imul dX9_holds_30 ?_
    refine wp_callP (e := hoP (qE Q).2 (qE Q).1 x (4 * bt ((qS Q).2.2 4) x)) (mm_siteV (av := [.int x, .int (4 * (bt ((qS Q).2.2 4) x))]) hC lX9_248 (rfl) (by decide) ⟨_, rfl, rfl⟩ rfl rfl (Nat.le_of_ble_eq_true rfl) dX9_holds_31) (c_X5_holdsOf l k _ _ _ _ _ _ (qE Q).1 (qE Q).2 hR hwE he hes) (by omega) (by decide) ?_
    exact wp_iret hC rfl rfl dX9_holds_34 (pP_ok (by unfold wHolds; rw [if_neg c1]))
  · refine wp_iconst (v := (-1)) dX9_holds_11 (by decide) ?_
    exact wp_iret hC rfl rfl dX9_holds_12 (pP_ok (by unfold wHolds; rw [if_pos c1]))

set_option maxRecDepth 100000 in
set_option maxHeartbeats 600000 in
theorem c_X9_rests (l : Launch) (k : Nat) (F A : mmF) (R : mmR) (G : mmG) (x : Int32) (Q : QV) (hX : RepX F A R G Q) (hwf : wfQ Q) : Meets l hX9_rests (k + 14) 144 144 [.ref 0, .int x] F A R G (pI (fun v F1 A1 R1 G1 => v = wRests Q x ∧ RepX F1 A1 R1 G1 Q ∧ frX F A R G F1 A1 R1 G1)) := by
  refine mm_start rfl (Nat.le_of_ble_eq_true rfl) (fun X hC => ?_)
  show WP hX9_rests X 144 0 [(0, .ref 0), (1, .int x)] [] F A R G
  obtain ⟨b, d, fi, hR, ⟨hRb, hRd, hb, hd, hbd⟩, ⟨hn, ht⟩, hB, hS, ⟨ha1, ha2, hfi, hac⟩, ⟨he, hes⟩, hk, hg⟩ := id hX
  obtain ⟨hw60, hw, hwS, hwA, hwE, hwK⟩ := id hwf
  have hw1 := hw.1
  have hb2 := bo_f hb
  have hd2 := bo_f hd
  refine wp_aload_n dX9_rests_0 rfl 0 rfl ?_
  refine wp_getR (q := b) fX9_68 rfl (rfl) (by decide) (hRb) dX9_rests_1 ?_
  refine wp_getI fX9_102 rfl (hb) (bo_l0 hb) dX9_rests_4 ?_
  refine wp_top (x' := nI (qB Q).1.2.1) (hB.1.2.1) ?_
  refine wp_iconst (v := 2) dX9_rests_7 (by decide) ?_
  refine wp_icmp_ge 13 dX9_rests_8 (by decide) (fun c1 => ?_) (fun c1 => ?_)
  · replace c1 := (ix_le (a := 2) (b := (qB Q).1.2.1) (rfl) (rfl) (by omega) (by omega)).mp c1
    refine wp_iload_n dX9_rests_13 rfl 1 rfl ?_
    refine wp_if_lt 22 dX9_rests_14 (by decide) (fun c2 => ?_) (fun c2 => ?_)
    · refine wp_bipush (v := (-2)) dX9_rests_22 (by decide) ?_
      exact wp_iret hC rfl rfl dX9_rests_24 (pI_ok (by unfold wRests; rw [if_neg (by omega)]; (first | rw [if_pos c2] | rw [if_neg c2, if_neg c3]); exact ⟨rfl, hX, frX.refl _ _ _ _⟩))
    · refine wp_iload_n dX9_rests_17 rfl 1 rfl ?_
      refine wp_iconst (v := 1) dX9_rests_18 (by decide) ?_
      refine wp_icmp_le 25 dX9_rests_19 (by decide) (fun c3 => ?_) (fun c3 => ?_)
      · refine wp_aload_n dX9_rests_25 rfl 0 rfl ?_
        refine wp_getO (q := 80) fX9_54 hR rfl (rfl) (by decide) (by decide) rfl dX9_rests_26 ?_
        refine wp_aload_n dX9_rests_29 rfl 0 rfl ?_
        refine wp_getR (q := b) fX9_68 rfl (rfl) (by decide) (hRb) dX9_rests_30 ?_
        refine wp_aload_n dX9_rests_33 rfl 0 rfl ?_
        refine wp_getO (q := 3) fX9_19 hR rfl (rfl) (by decide) (by decide) rfl dX9_rests_34 ?_
        refine wp_callV (mm_siteV (av := [.ref b, .ref 3]) hC lX9_251 (rfl) (by decide) ⟨_, rfl, rfl⟩ rfl rfl (Nat.le_of_ble_eq_true rfl) dX9_rests_37) (c_X3_settle l k _ _ _ _ b (qS Q) (qB Q) hR hb hS hB hw (by omega)) (by omega) (by decide) (by decide) ?_
        rintro F1 A1 _ _ ⟨e1, e2, hg1, rfl, rfl⟩
        refine wp_iload_n dX9_rests_40 rfl 1 rfl ?_
        refine wp_if_ne 54 dX9_rests_41 (by decide) (fun c4 => ?_) (fun c4 => ?_)
        · refine wp_aload_n dX9_rests_54 rfl 0 rfl ?_
          refine wp_getO (q := 80) fX9_54 hR rfl (rfl) (by decide) (by decide) rfl dX9_rests_55 ?_
          refine wp_getI fX9_256 rfl (rfl) (by decide) dX9_rests_58 ?_
          refine wp_top (x' := (restsP (qB Q) (qS Q)).2) (e2) ?_
          exact wp_iret hC rfl rfl dX9_rests_61 (pI_ok (by unfold wRests; rw [if_neg (by omega), if_neg c2, if_pos c3, if_neg c4]; exact ⟨rfl, hX.scr (hg1.wide (by decide) (by decide))⟩))
        · refine wp_aload_n dX9_rests_44 rfl 0 rfl ?_
          refine wp_getO (q := 80) fX9_54 hR rfl (rfl) (by decide) (by decide) rfl dX9_rests_45 ?_
          refine wp_getI fX9_255 rfl (rfl) (by decide) dX9_rests_48 ?_
          refine wp_top (x' := (restsP (qB Q) (qS Q)).1) (e1) ?_
          refine wp_goto 61 dX9_rests_51 (by decide) ?_
          exact wp_iret hC rfl rfl dX9_rests_61 (pI_ok (by unfold wRests; rw [if_neg (by omega), if_neg c2, if_pos c3, if_pos c4]; exact ⟨rfl, hX.scr (hg1.wide (by decide) (by decide))⟩))
      · refine wp_bipush (v := (-2)) dX9_rests_22 (by decide) ?_
        exact wp_iret hC rfl rfl dX9_rests_24 (pI_ok (by unfold wRests; rw [if_neg (by omega)]; (first | rw [if_pos c2] | rw [if_neg c2, if_neg c3]); exact ⟨rfl, hX, frX.refl _ _ _ _⟩))
  · replace c1 := mt (ix_le (a := 2) (b := (qB Q).1.2.1) (rfl) (rfl) (by omega) (by omega)).mpr c1
    refine wp_iconst (v := (-1)) dX9_rests_11 (by decide) ?_
    exact wp_iret hC rfl rfl dX9_rests_12 (pI_ok (by unfold wRests; rw [if_pos (by omega)]; exact ⟨rfl, hX, frX.refl _ _ _ _⟩))

set_option maxRecDepth 100000 in
set_option maxHeartbeats 600000 in
theorem c_X9_odds (l : Launch) (k : Nat) (F A : mmF) (R : mmR) (G : mmG) (x pl xn y z u : Int32) (Q : QV) (hX : RepX F A R G Q) (hwf : wfQ Q) : Meets l hX9_odds (k + 18) 144 144 [.ref 0, .int x, .int pl, .int xn, .int y, .int z, .int u] F A R G (pI (fun v F1 A1 R1 G1 => v = wOdds Q x pl xn y z u ∧ RepX F1 A1 R1 G1 Q ∧ frX F A R G F1 A1 R1 G1)) := by
  refine mm_start rfl (Nat.le_of_ble_eq_true rfl) (fun X hC => ?_)
  show WP hX9_odds X 144 0 [(0, .ref 0), (1, .int x), (2, .int pl), (3, .int xn), (4, .int y), (5, .int z), (6, .int u)] [] F A R G
  obtain ⟨b, d, fi, hR, ⟨hRb, hRd, hb, hd, hbd⟩, ⟨hn, ht⟩, hB, hS, ⟨ha1, ha2, hfi, hac⟩, ⟨he, hes⟩, hk, hg⟩ := id hX
  obtain ⟨hw60, hw, hwS, hwA, hwE, hwK⟩ := id hwf
  have hw1 := hw.1
  have hb2 := bo_f hb
  have hd2 := bo_f hd
  refine wp_aload_n dX9_odds_0 rfl 0 rfl ?_
  refine wp_getR (q := b) fX9_68 rfl (rfl) (by decide) (hRb) dX9_odds_1 ?_
  refine wp_iload_n dX9_odds_4 rfl 1 rfl ?_
  refine wp_callP (e := isIn x (nI (qB Q).1.2.1)) (mm_siteV (av := [.int x]) hC lX9_154 (hb) (bo_l0 hb) ⟨_, rfl, rfl⟩ rfl rfl (Nat.le_of_ble_eq_true rfl) dX9_odds_5) (cB_isThrower l (k + 17) _ _ _ _ _ _ (qB Q) hb hB) (by omega) (by decide) ?_
  refine wp_if_eq 23 dX9_odds_8 (by decide) (fun c1 => ?_) (fun c1 => ?_)
  · refine wp_iconst (v := (-1)) dX9_odds_23 (by decide) ?_
    exact wp_iret hC rfl rfl dX9_odds_24 (pI_ok (by unfold wOdds; (first | rw [if_pos c1] | rw [if_neg c1, if_pos c2]); exact ⟨rfl, hX, frX.refl _ _ _ _⟩))
  · obtain ⟨t, htn, rfl⟩ := isIn_nat (by omega) c1
    refine wp_aload_n dX9_odds_11 rfl 0 rfl ?_
    refine wp_getR (q := b) fX9_68 rfl (rfl) (by decide) (hRb) dX9_odds_12 ?_
    refine wp_iload dX9_odds_15 4 rfl ?_
    refine wp_callP (e := isIn y (nI (qB Q).1.1)) (mm_siteV (av := [.int y]) hC lX9_121 (hb) (bo_l0 hb) ⟨_, rfl, rfl⟩ rfl rfl (Nat.le_of_ble_eq_true rfl) dX9_odds_17) (cB_isHusk l (k + 17) _ _ _ _ _ _ (qB Q) hb hB) (by omega) (by decide) ?_
    refine wp_if_ne 25 dX9_odds_20 (by decide) (fun c2 => ?_) (fun c2 => ?_)
    · obtain ⟨h, hh, rfl⟩ := isIn_nat (by omega) c2
      refine wp_iload_n dX9_odds_25 rfl 2 rfl ?_
      refine wp_callP (e := isIn pl 8) (mm_siteS (av := [.int pl]) hC lX9_259 rfl rfl (Nat.le_of_ble_eq_true rfl) dX9_odds_26) (c_X9_isPlace l (k + 17) _ _ _ _ _) (by omega) (by decide) ?_
      refine wp_if_eq 54 dX9_odds_29 (by decide) (fun c3 => ?_) (fun c3 => ?_)
      · refine wp_bipush (v := (-2)) dX9_odds_54 (by decide) ?_
        exact wp_iret hC rfl rfl dX9_odds_56 (pI_ok (by unfold wOdds; (first | rw [if_neg c1, if_neg c2, if_pos c3] | rw [if_neg c1, if_neg c2, if_neg c3, if_pos c4] | rw [if_neg c1, if_neg c2, if_neg c3, if_neg c4, if_pos c5] | rw [if_neg c1, if_neg c2, if_neg c3, if_neg c4, if_neg c5, if_pos c6] | rw [if_neg c1, if_neg c2, if_neg c3, if_neg c4, if_neg c5, if_neg c6, if_neg c7]); exact ⟨rfl, hX, frX.refl _ _ _ _⟩))
      · refine wp_iload_n dX9_odds_32 rfl 3 rfl ?_
        refine wp_iconst (v := 1) dX9_odds_33 (by decide) ?_
        refine wp_icmp_lt 54 dX9_odds_34 (by decide) (fun c4 => ?_) (fun c4 => ?_)
        · refine wp_bipush (v := (-2)) dX9_odds_54 (by decide) ?_
          exact wp_iret hC rfl rfl dX9_odds_56 (pI_ok (by unfold wOdds; (first | rw [if_neg c1, if_neg c2, if_pos c3] | rw [if_neg c1, if_neg c2, if_neg c3, if_pos c4] | rw [if_neg c1, if_neg c2, if_neg c3, if_neg c4, if_pos c5] | rw [if_neg c1, if_neg c2, if_neg c3, if_neg c4, if_neg c5, if_pos c6] | rw [if_neg c1, if_neg c2, if_neg c3, if_neg c4, if_neg c5, if_neg c6, if_neg c7]); exact ⟨rfl, hX, frX.refl _ _ _ _⟩))
        · refine wp_iload_n dX9_odds_37 rfl 3 rfl ?_
          refine wp_iconst (v := 4) dX9_odds_38 (by decide) ?_
          refine wp_icmp_gt 54 dX9_odds_39 (by decide) (fun c5 => ?_) (fun c5 => ?_)
          · refine wp_bipush (v := (-2)) dX9_odds_54 (by decide) ?_
            exact wp_iret hC rfl rfl dX9_odds_56 (pI_ok (by unfold wOdds; (first | rw [if_neg c1, if_neg c2, if_pos c3] | rw [if_neg c1, if_neg c2, if_neg c3, if_pos c4] | rw [if_neg c1, if_neg c2, if_neg c3, if_neg c4, if_pos c5] | rw [if_neg c1, if_neg c2, if_neg c3, if_neg c4, if_neg c5, if_pos c6] | rw [if_neg c1, if_neg c2, if_neg c3, if_neg c4, if_neg c5, if_neg c6, if_neg c7]); exact ⟨rfl, hX, frX.refl _ _ _ _⟩))
          · obtain ⟨n, hn31, rfl⟩ := nI_of (x := xn) (fun h => c4 (Int32.lt_trans h (by decide)))
            have hn1 : 1 ≤ n := by have h := mt (nI_ltI (b := 1) hn31 (by decide)).mpr c4; omega
            have hn4 : n ≤ 4 := by have h := mt (nI_ltI (a := 4) (by decide) hn31).mpr c5; omega
            refine wp_iload dX9_odds_42 5 rfl ?_
            refine wp_if_lt 54 dX9_odds_44 (by decide) (fun c6 => ?_) (fun c6 => ?_)
            · refine wp_bipush (v := (-2)) dX9_odds_54 (by decide) ?_
              exact wp_iret hC rfl rfl dX9_odds_56 (pI_ok (by unfold wOdds; (first | rw [if_neg c1, if_neg c2, if_pos c3] | rw [if_neg c1, if_neg c2, if_neg c3, if_pos c4] | rw [if_neg c1, if_neg c2, if_neg c3, if_neg c4, if_pos c5] | rw [if_neg c1, if_neg c2, if_neg c3, if_neg c4, if_neg c5, if_pos c6] | rw [if_neg c1, if_neg c2, if_neg c3, if_neg c4, if_neg c5, if_neg c6, if_neg c7]); exact ⟨rfl, hX, frX.refl _ _ _ _⟩))
            · refine wp_iload dX9_odds_47 5 rfl ?_
              refine wp_bipush (v := 10) dX9_odds_49 (by decide) ?_
              refine wp_icmp_le 57 dX9_odds_51 (by decide) (fun c7 => ?_) (fun c7 => ?_)
              · obtain ⟨xx, hxx, rfl⟩ := nI_of2 (n := 10) (M := 10) rfl c6 c7
                obtain ⟨wy, hwy, hwe⟩ := way_nI (B := qB Q) (t := t) (hk := h) (pl := pl) hxx n (qS Q)
                have h20 : 0 < 20 ^ n ∧ 20 ^ n ≤ 160000 := ⟨Nat.pow_pos (by decide), (Nat.pow_le_pow_right (by decide) hn4 : 20 ^ n ≤ 20 ^ 4)⟩
                refine wp_aload_n dX9_odds_57 rfl 0 rfl ?_
                refine wp_getO (q := 86) fX9_61 hR rfl (rfl) (by decide) (by decide) rfl dX9_odds_58 ?_
                refine wp_iload_n dX9_odds_61 rfl 1 rfl ?_
                refine wp_putI fX9_262 fn_2_1 rfl (rfl) (by decide) dX9_odds_62 ?_
                refine wp_aload_n dX9_odds_65 rfl 0 rfl ?_
                refine wp_getO (q := 86) fX9_61 hR rfl (rfl) (by decide) (by decide) rfl dX9_odds_66 ?_
                refine wp_iload_n dX9_odds_69 rfl 2 rfl ?_
                refine wp_putI fX9_265 fn_2_2 rfl (rfl) (by decide) dX9_odds_70 ?_
                refine wp_aload_n dX9_odds_73 rfl 0 rfl ?_
                refine wp_getO (q := 86) fX9_61 hR rfl (rfl) (by decide) (by decide) rfl dX9_odds_74 ?_
                refine wp_iload dX9_odds_77 5 rfl ?_
                refine wp_putI fX9_267 fn_2_3 rfl (rfl) (by decide) dX9_odds_79 ?_
                obtain ⟨F1, hF1⟩ : ∃ z, z = u2 (u2 (u2 F 86 1 (nI t)) 86 2 pl) 86 3 (nI xx) := ⟨_, rfl⟩
                rw [← hF1]
                have hf1 : ∀ r, r ≠ 86 → F1 r = F r := by rw [hF1]; intro r hr; simp [u2, va_up, hr]
                have hS : isS F1 A 3 (qS Q) := isS_cong (hf1 3 (by decide)) rfl rfl hS
                have hB : isB F1 A b (qB Q) := isB_cong (hf1 b (by omega)) (fun _ _ _ => rfl) hB
                refine wp_aload_n dX9_odds_82 rfl 0 rfl ?_
                refine wp_getO (q := 86) fX9_61 hR rfl (rfl) (by decide) (by decide) rfl dX9_odds_83 ?_
                refine wp_aload_n dX9_odds_86 rfl 0 rfl ?_
                refine wp_getR (q := b) fX9_68 rfl (rfl) (by decide) (hRb) dX9_odds_87 ?_
                refine wp_aload_n dX9_odds_90 rfl 0 rfl ?_
                refine wp_getO (q := 3) fX9_19 hR rfl (rfl) (by decide) (by decide) rfl dX9_odds_91 ?_
                refine wp_iload dX9_odds_94 4 rfl ?_
                refine wp_iload_n dX9_odds_96 rfl 3 rfl ?_
                refine wp_callI (mm_siteV (av := [.ref b, .ref 3, .int (nI h), .int (nI n)]) hC lX9_270 (rfl) (by decide) ⟨_, rfl, rfl⟩ rfl rfl (Nat.le_of_ble_eq_true rfl) dX9_odds_97) (c_X2_waysDown l k _ _ _ _ b t h n pl (nI xx) (qS Q) (qB Q) hR hb hS hB hw htn hn4 ⟨by rw [hF1]; simp [u2, va_up], by rw [hF1]; simp [u2, va_up], by rw [hF1]; simp [u2, va_up]⟩) (by omega) (by decide) ?_
                rintro _ F2 A2 _ _ ⟨rfl, hg2, rfl, rfl⟩
                refine wp_top (x' := nI wy) hwe ?_
                refine wp_iload_n dX9_odds_100 rfl 3 rfl ?_
                refine wp_callP (e := nI (20 ^ n)) (mm_siteS (av := [.int (nI n)]) hC lX9_273 rfl rfl (Nat.le_of_ble_eq_true rfl) dX9_odds_101) (c_X2_allWays l (k + 17) _ _ _ _ n hn4) (by omega) (by decide) ?_
                refine wp_iload dX9_odds_104 6 rfl ?_
                refine wp_callP (e := frcP (nI wy) (nI (20 ^ n)) u) (mm_siteS (av := [.int (nI wy), .int (nI (20 ^ n)), .int u]) hC lX9_242 rfl rfl (Nat.le_of_ble_eq_true rfl) dX9_odds_106) (c_X9_inLeastTerms l (k + 16) _ _ _ _ wy (20 ^ n) u (by omega) (by omega) h20.1 (Nat.le_trans (Nat.mul_le_mul (Nat.le_trans hwy h20.2) h20.2) (by decide))) (by omega) (by decide) ?_
                exact wp_iret hC rfl rfl dX9_odds_109 (pI_ok (by unfold wOdds; rw [if_neg c1, if_neg c2, if_neg c3, if_neg c4, if_neg c5, if_neg c6, if_pos c7, nI_clamp (by omega), nI_clamp (by omega), nI_clamp (by omega), hwe]; exact ⟨rfl, hX.scr (fun r hr => ⟨(hg2 r (by omega)).1.trans (hf1 r (by omega)), (hg2 r (by omega)).2⟩)⟩))
              · refine wp_bipush (v := (-2)) dX9_odds_54 (by decide) ?_
                exact wp_iret hC rfl rfl dX9_odds_56 (pI_ok (by unfold wOdds; (first | rw [if_neg c1, if_neg c2, if_pos c3] | rw [if_neg c1, if_neg c2, if_neg c3, if_pos c4] | rw [if_neg c1, if_neg c2, if_neg c3, if_neg c4, if_pos c5] | rw [if_neg c1, if_neg c2, if_neg c3, if_neg c4, if_neg c5, if_pos c6] | rw [if_neg c1, if_neg c2, if_neg c3, if_neg c4, if_neg c5, if_neg c6, if_neg c7]); exact ⟨rfl, hX, frX.refl _ _ _ _⟩))
    · refine wp_iconst (v := (-1)) dX9_odds_23 (by decide) ?_
      exact wp_iret hC rfl rfl dX9_odds_24 (pI_ok (by unfold wOdds; (first | rw [if_pos c1] | rw [if_neg c1, if_pos c2]); exact ⟨rfl, hX, frX.refl _ _ _ _⟩))

set_option maxRecDepth 100000 in
set_option maxHeartbeats 600000 in
theorem c_X9_seed (l : Launch) (k : Nat) (F A : mmF) (R : mmR) (G : mmG) (x : Int64) (Q : QV) (hX : RepX F A R G Q) (hwf : wfQ Q) : Meets l hX9_seed k 144 144 [.ref 0, .long x] F A R G (pL (fun v F1 A1 R1 G1 => v = (wSeed Q x).2 ∧ RepX F1 A1 R1 G1 (wSeed Q x).1 ∧ frX F A R G F1 A1 R1 G1)) := by
  refine mm_start rfl (Nat.le_of_ble_eq_true rfl) (fun X hC => ?_)
  show WP hX9_seed X 144 0 [(0, .ref 0), (1, .long x)] [] F A R G
  obtain ⟨b, d, fi, hR, ⟨hRb, hRd, hb, hd, hbd⟩, ⟨hn, ht⟩, hB, hS, ⟨ha1, ha2, hfi, hac⟩, ⟨he, hes⟩, hk, hg⟩ := id hX
  obtain ⟨hw60, hw, hwS, hwA, hwE, hwK⟩ := id hwf
  have hw1 := hw.1
  have hb2 := bo_f hb
  have hd2 := bo_f hd
  refine wp_aload_n dX9_seed_0 rfl 0 rfl ?_
  refine wp_getL fX9_75 rfl (rfl) (by decide) dX9_seed_1 ?_
  refine wp_lstore_n [1, 2, 0] (by decide) rfl rfl rfl dX9_seed_4 rfl ?_
  refine wp_aload_n dX9_seed_5 rfl 0 rfl ?_
  refine wp_lload_n dX9_seed_6 rfl 1 rfl ?_
  refine wp_putL fX9_75 fn_9_10 rfl (ft9) (rfl) (by decide) dX9_seed_7 ?_
  refine wp_lload_n dX9_seed_10 rfl 2 rfl ?_
  exact wp_lret hC rfl dX9_seed_11 (pL_ok ⟨hg, hX.sd (frI.refl _ _ _ _) (va_up_self _ _ _) (fun r hr => va_up_ne _ _ hr)⟩)

set_option maxRecDepth 100000 in
set_option maxHeartbeats 600000 in
theorem c_X9_fairs (l : Launch) (k : Nat) (F A : mmF) (R : mmR) (G : mmG) (x : Int32) (Q : QV) (hX : RepX F A R G Q) (hwf : wfQ Q) : Meets l hX9_fairs (k + 13) 144 144 [.ref 0, .int x] F A R G (pI (fun v F1 A1 R1 G1 => v = (wFairs Q x).2 ∧ RepX F1 A1 R1 G1 (wFairs Q x).1 ∧ frX F A R G F1 A1 R1 G1)) := by
  refine mm_start rfl (Nat.le_of_ble_eq_true rfl) (fun X hC => ?_)
  show WP hX9_fairs X 144 0 [(0, .ref 0), (1, .int x)] [] F A R G
  obtain ⟨b, d, fi, hR, ⟨hRb, hRd, hb, hd, hbd⟩, ⟨hn, ht⟩, hB, hS, ⟨ha1, ha2, hfi, hac⟩, ⟨he, hes⟩, hk, hg⟩ := id hX
  obtain ⟨hw60, hw, hwS, hwA, hwE, hwK⟩ := id hwf
  have hw1 := hw.1
  have hb2 := bo_f hb
  have hd2 := bo_f hd
  refine wp_iload_n dX9_fairs_0 rfl 1 rfl ?_
  refine wp_iconst (v := 1) dX9_fairs_1 (by decide) ?_
  refine wp_icmp_lt 11 dX9_fairs_2 (by decide) (fun c1 => ?_) (fun c1 => ?_)
  · refine wp_bipush (v := (-2)) dX9_fairs_11 (by decide) ?_
    exact wp_iret hC rfl rfl dX9_fairs_13 (pI_ok (by unfold wFairs; (first | rw [if_pos c1] | rw [if_neg c1, if_neg c2]); exact ⟨rfl, hX, frX.refl _ _ _ _⟩))
  · refine wp_iload_n dX9_fairs_5 rfl 1 rfl ?_
    refine wp_bipush (v := 30) dX9_fairs_6 (by decide) ?_
    refine wp_icmp_le 14 dX9_fairs_8 (by decide) (fun c2 => ?_) (fun c2 => ?_)
    · obtain ⟨m, hm, rfl⟩ := nI_of2 (n := 30) (M := 30) rfl (fun h => c1 (Int32.lt_trans h (by decide))) c2
      refine wp_iconst (v := 0) dX9_fairs_14 (by decide) ?_
      refine wp_istore_n [1, 2, 0] (by decide) rfl rfl rfl dX9_fairs_15 rfl ?_
      refine wp_aload_n dX9_fairs_16 rfl 0 rfl ?_
      refine wp_getO (q := 86) fX9_61 hR rfl (rfl) (by decide) (by decide) rfl dX9_fairs_17 ?_
      refine wp_aload_n dX9_fairs_20 rfl 0 rfl ?_
      refine wp_getO (q := 3) fX9_19 hR rfl (rfl) (by decide) (by decide) rfl dX9_fairs_21 ?_
      refine wp_callV (mm_siteV (av := [.ref 3]) hC lX9_276 (rfl) (by decide) ⟨_, rfl, rfl⟩ rfl rfl (Nat.le_of_ble_eq_true rfl) dX9_fairs_24) (c_X2_startFrom l (k + 9) _ _ _ _ (qS Q) hR hS) (by omega) (by decide) (by decide) ?_
      rintro F1 A1 _ _ ⟨hS1, hg1, rfl, rfl⟩
      refine wp_iconst (v := 0) dX9_fairs_27 (by decide) ?_
      refine wp_istore_n [1, 2, 3, 0] (by decide) rfl rfl rfl dX9_fairs_28 rfl ?_
      have lp : ∀ (nn : Nat) (i : Nat) (q : Int32) (T : SV) (F1 A1 : mmF) (G1 : mmG), (i ≤ m) → (fairsP (qB Q) m (qG Q, qS Q, 0) = fairsP (qB Q) (m - i) (G1 0, T, q)) → (isS F1 A1 88 T) → (dn T) → (frI 88 90 F A F1 A1) → (∀ r, r ≠ 0 → G1 r = G r) → m - i < nn → WP hX9_fairs X 144 29 [(0, .ref 0), (1, .int (nI m)), (2, .int q), (3, .int (nI i))] [] F1 A1 R G1 := by
        intro nn
        induction nn with
        | zero => intro i q T F1 A1 G1 _ _ _ _ _ _ hm; exact absurd hm (Nat.not_lt_zero _)
        | succ nn ih_lp =>
          intro i q T F1 A1 G1 hi hv hT hdT hf hGr hm_lp
          have hB := hf.b (by omega) hB
          refine wp_iload_n dX9_fairs_29 rfl 3 rfl ?_
          refine wp_iload_n dX9_fairs_30 rfl 1 rfl ?_
          refine wp_icmp_ge 82 dX9_fairs_31 (by decide) (fun c3 => ?_) (fun c3 => ?_)
          · replace c3 := (ix_le (a := m) (b := i) (rfl) (rfl) (by omega) (by omega)).mp c3
            refine wp_iload_n dX9_fairs_82 rfl 2 rfl ?_
            exact wp_iret hC rfl rfl dX9_fairs_83 (pI_ok (by unfold wFairs; rw [if_neg c1, if_pos c2, nI_clamp (by omega), hv, show m - i = 0 by omega, fairsP_0]; exact ⟨rfl, hX.sd (hf.wide (by decide) (by decide)) rfl hGr⟩))
          · replace c3 := mt (ix_le (a := m) (b := i) (rfl) (rfl) (by omega) (by omega)).mpr c3
            refine wp_aload_n dX9_fairs_34 rfl 0 rfl ?_
            refine wp_aload_n dX9_fairs_35 rfl 0 rfl ?_
            refine wp_getL fX9_75 rfl (rfl) (by decide) dX9_fairs_36 ?_
            refine wp_ldc2 (v := 6364136223846793005) k_696 dX9_fairs_39 ?_
            refine wp_lmul dX9_fairs_42 ?_
            refine wp_ldc2 (v := 1442695040888963407) k_697 dX9_fairs_43 ?_
            refine wp_ladd dX9_fairs_46 ?_
            refine wp_putL fX9_75 fn_9_10 rfl (ft9) (rfl) (by decide) dX9_fairs_47 ?_
            obtain ⟨G2, hG2⟩ : ∃ z, z = va_up G1 0 (((G1 0) * 6364136223846793005) + 1442695040888963407) := ⟨_, rfl⟩
            rw [← hG2]
            have hG20 : G2 0 = nextG (G1 0) := by rw [hG2, va_up_self, nextG_eq]
            obtain ⟨dd, hddE⟩ : ∃ z, z = drwN (nextG (G1 0)) := ⟨_, rfl⟩
            have hdd : dd < 96 := by rw [hddE]; exact (drwN_ok _).1
            have hde : drwn (nextG (G1 0)) = nI dd := by rw [hddE]; exact (drwN_ok _).2
            rw [← hG20] at hde
            refine wp_iload_n dX9_fairs_50 rfl 2 rfl ?_
            refine wp_aload_n dX9_fairs_51 rfl 0 rfl ?_
            refine wp_getO (q := 86) fX9_61 hR rfl (rfl) (by decide) (by decide) rfl dX9_fairs_52 ?_
            refine wp_aload_n dX9_fairs_55 rfl 0 rfl ?_
            refine wp_getR (q := b) fX9_68 rfl (rfl) (by decide) (hRb) dX9_fairs_56 ?_
            refine wp_aload_n dX9_fairs_59 rfl 0 rfl ?_
            refine wp_getL fX9_75 rfl (rfl) (by decide) dX9_fairs_60 ?_
            refine wp_bipush (v := 33) dX9_fairs_63 (by decide) ?_
            refine wp_lushr dX9_fairs_65 ?_
            refine wp_ldc2 (v := 96) k_698 dX9_fairs_66 ?_
            refine wp_lrem dX9_fairs_69 (by decide) ?_
            refine wp_l2i dX9_fairs_70 ?_
            refine wp_top (x' := nI dd) (hde) ?_
            refine wp_callI (mm_siteV (av := [.ref b, .int (nI dd)]) hC lX9_285 (rfl) (by decide) ⟨_, rfl, rfl⟩ rfl rfl (Nat.le_of_ble_eq_true rfl) dX9_fairs_71) (c_X2_downBehindDrawn l k _ _ _ _ b dd T (qB Q) hR hb hT hdT hB hw hdd) (by omega) (by decide) ?_
            rintro _ F3 A3 _ _ ⟨rfl, hT3, hg3, rfl, rfl⟩
            refine wp_iadd dX9_fairs_74 ?_
            refine wp_istore_n [1, 2, 0, 4] (by decide) rfl rfl rfl dX9_fairs_75 rfl ?_
            refine wp_iinc (v := nI (i + 1)) 3 rfl (by exact nI_1 i) [1, 2, 3, 0] (by decide) rfl rfl rfl dX9_fairs_76 ?_
            refine wp_goto 29 dX9_fairs_79 (by decide) ?_
            exact ih_lp (i + 1) _ (drawP (qB Q) T dd) F3 A3 G2 (by omega) (by rw [hv, show m - i = m - (i + 1) + 1 by omega, fairsP_s, stF_eq hG20 hddE]) hT3 (dn_draw hw hdT) (hf.trans (hg3.I (by decide) (by decide))) (fun r hr => by rw [hG2, va_up_ne _ _ hr]; exact hGr r hr) (by omega)
      exact lp (m + 1) 0 0 (qS Q) F1 A1 G (Nat.zero_le _) (by rw [hg, Nat.sub_zero]) hS1 hwS.1 (hg1.I (a := 88) (by decide) (by decide)) (fun _ _ => rfl) (by omega)
    · refine wp_bipush (v := (-2)) dX9_fairs_11 (by decide) ?_
      exact wp_iret hC rfl rfl dX9_fairs_13 (pI_ok (by unfold wFairs; (first | rw [if_pos c1] | rw [if_neg c1, if_neg c2]); exact ⟨rfl, hX, frX.refl _ _ _ _⟩))

set_option maxRecDepth 100000 in
set_option maxHeartbeats 600000 in
theorem c_X9_keep (l : Launch) (k : Nat) (F A : mmF) (R : mmR) (G : mmG) (x : Int32) (Q : QV) (hX : RepX F A R G Q) (hwf : wfQ Q) : Meets l hX9_keep (k + 4) 144 144 [.ref 0, .int x] F A R G (pI (fun v F1 A1 R1 G1 => v = (wKeep Q x).2 ∧ RepX F1 A1 R1 G1 (wKeep Q x).1 ∧ frX F A R G F1 A1 R1 G1)) := by
  refine mm_start rfl (Nat.le_of_ble_eq_true rfl) (fun X hC => ?_)
  show WP hX9_keep X 144 0 [(0, .ref 0), (1, .int x)] [] F A R G
  obtain ⟨b, d, fi, hR, ⟨hRb, hRd, hb, hd, hbd⟩, ⟨hn, ht⟩, hB, hS, ⟨ha1, ha2, hfi, hac⟩, ⟨he, hes⟩, hk, hg⟩ := id hX
  obtain ⟨hw60, hw, hwS, hwA, hwE, hwK⟩ := id hwf
  have hw1 := hw.1
  have hb2 := bo_f hb
  have hd2 := bo_f hd
  rcases x01 x with hx | ⟨j, hj, rfl⟩
  · refine wp_aload_n dX9_keep_0 rfl 0 rfl ?_
    refine wp_getO (q := 54) fX9_40 hR rfl (rfl) (by decide) (by decide) rfl dX9_keep_1 ?_
    refine wp_iload_n dX9_keep_4 rfl 1 rfl ?_
    refine wp_aload_n dX9_keep_5 rfl 0 rfl ?_
    refine wp_getO (q := 3) fX9_19 hR rfl (rfl) (by decide) (by decide) rfl dX9_keep_6 ?_
    refine wp_callP (e := 0) (mm_siteV (av := [.int x, .ref 3]) hC lX9_288 (rfl) (by decide) ⟨_, rfl, rfl⟩ rfl rfl (Nat.le_of_ble_eq_true rfl) dX9_keep_9) (c_X6_putO l k _ _ _ _ x hx) (by omega) (by decide) ?_
    refine wp_if_eq 25 dX9_keep_12 (by decide) (fun c1 => ?_) (fun c1 => ?_)
    · refine wp_iconst (v := (-1)) dX9_keep_25 (by decide) ?_
      exact wp_iret hC rfl rfl dX9_keep_26 (pI_ok (by rw [wKeep_no hx]; exact ⟨rfl, hX, frX.refl _ _ _ _⟩))
    · exact absurd rfl c1
  · refine wp_aload_n dX9_keep_0 rfl 0 rfl ?_
    refine wp_getO (q := 54) fX9_40 hR rfl (rfl) (by decide) (by decide) rfl dX9_keep_1 ?_
    refine wp_iload_n dX9_keep_4 rfl 1 rfl ?_
    refine wp_aload_n dX9_keep_5 rfl 0 rfl ?_
    refine wp_getO (q := 3) fX9_19 hR rfl (rfl) (by decide) (by decide) rfl dX9_keep_6 ?_
    refine wp_callI (mm_siteV (av := [.int (nI j), .ref 3]) hC lX9_288 (rfl) (by decide) ⟨_, rfl, rfl⟩ rfl rfl (Nat.le_of_ble_eq_true rfl) dX9_keep_9) (c_X6_put l k _ _ _ _ j (qS Q) hR hj hS) (by omega) (by decide) ?_
    rintro _ F1 A1 _ _ ⟨rfl, hS1, e1, e2, e3, rfl, rfl⟩
    have hS : isS F1 A1 3 (qS Q) := isS_cong (e2 _ (by omega)) (e3 _ (by omega) (by omega) (by omega)) (e3 _ (by omega) (by omega) (by omega)) hS
    refine wp_if_eq 25 dX9_keep_12 (by decide) (fun c2 => ?_) (fun c2 => ?_)
    · exact absurd c2 (by decide)
    · refine wp_aload_n dX9_keep_15 rfl 0 rfl ?_
      refine wp_getO (q := 3) fX9_19 hR rfl (rfl) (by decide) (by decide) rfl dX9_keep_16 ?_
      refine wp_callP (e := manyP ((qS Q).2.2 2)) (mm_siteV (av := []) hC lX9_292 (rfl) (by decide) ⟨_, rfl, rfl⟩ rfl rfl (Nat.le_of_ble_eq_true rfl) dX9_keep_19) (c_X7_howManyDown l (k + 2) _ _ _ _ 3 _ (qS Q) rfl hS hwS.1.choose_spec.1 hwS.1.choose_spec.2) (by omega) (by decide) ?_
      refine wp_goto 26 dX9_keep_22 (by decide) ?_
      exact wp_iret hC rfl rfl dX9_keep_26 (pI_ok (by
      unfold wKeep; rw [if_neg (nI_pos (by omega)), if_pos (show nI j < 2 from nI_lt (b := 2) hj (by decide)), nI_clamp (by omega)]
      refine ⟨rfl, hX.kp (fun r hr => ⟨e2 r (by omega), e3 r (by omega) (by omega) (by omega)⟩) (fun i hi => ⟨?_, fun S hSi => ?_⟩)⟩
      · rw [e1]
        by_cases e : i = j
        · subst e; simp [va_up]
        · simp only [va_up, e, if_false]; exact (hk i hi).1
      · by_cases e : i = j
        · subst e; simp only [va_up_self] at hSi; cases hSi; exact hS1
        · rw [va_up_ne _ _ e] at hSi
          exact isS_cong (e2 _ (by omega)) (e3 _ (by omega) (by omega) (by omega)) (e3 _ (by omega) (by omega) (by omega)) ((hk i hi).2 S hSi)))

set_option maxRecDepth 100000 in
set_option maxHeartbeats 600000 in
theorem c_X9_again (l : Launch) (k : Nat) (F A : mmF) (R : mmR) (G : mmG) (x : Int32) (Q : QV) (hX : RepX F A R G Q) (hwf : wfQ Q) : Meets l hX9_again (k + 5) 144 144 [.ref 0, .int x] F A R G (pI (fun v F1 A1 R1 G1 => v = (wAgain Q x).2 ∧ RepX F1 A1 R1 G1 (wAgain Q x).1 ∧ frX F A R G F1 A1 R1 G1)) := by
  refine mm_start rfl (Nat.le_of_ble_eq_true rfl) (fun X hC => ?_)
  show WP hX9_again X 144 0 [(0, .ref 0), (1, .int x)] [] F A R G
  obtain ⟨b, d, fi, hR, ⟨hRb, hRd, hb, hd, hbd⟩, ⟨hn, ht⟩, hB, hS, ⟨ha1, ha2, hfi, hac⟩, ⟨he, hes⟩, hk, hg⟩ := id hX
  obtain ⟨hw60, hw, hwS, hwA, hwE, hwK⟩ := id hwf
  have hw1 := hw.1
  have hb2 := bo_f hb
  have hd2 := bo_f hd
  refine wp_iload_n dX9_again_0 rfl 1 rfl ?_
  refine wp_if_lt 9 dX9_again_1 (by decide) (fun c1 => ?_) (fun c1 => ?_)
  · refine wp_iconst (v := (-1)) dX9_again_9 (by decide) ?_
    exact wp_iret hC rfl rfl dX9_again_10 (pI_ok (by unfold wAgain; (first | rw [if_pos c1] | rw [if_neg c1, if_neg c2]); exact ⟨rfl, hX, frX.refl _ _ _ _⟩))
  · refine wp_iload_n dX9_again_4 rfl 1 rfl ?_
    refine wp_iconst (v := 2) dX9_again_5 (by decide) ?_
    refine wp_icmp_lt 11 dX9_again_6 (by decide) (fun c2 => ?_) (fun c2 => ?_)
    · obtain ⟨j, hj, rfl⟩ : ∃ j, j < 2 ∧ x = nI j := by rcases x01 x with (h | h) | h; exact absurd h c1; exact absurd c2 (Int32.not_lt.mpr h); exact h
      refine wp_aload_n dX9_again_11 rfl 0 rfl ?_
      refine wp_getO (q := 54) fX9_40 hR rfl (rfl) (by decide) (by decide) rfl dX9_again_12 ?_
      refine wp_iload_n dX9_again_15 rfl 1 rfl ?_
      refine wp_aload_n dX9_again_16 rfl 0 rfl ?_
      refine wp_getO (q := 3) fX9_19 hR rfl (rfl) (by decide) (by decide) rfl dX9_again_17 ?_
      have hkj := hk j hj
      refine wp_callI (mm_siteV (av := [.int (nI j), .ref 3]) hC lX9_296 (rfl) (by decide) ⟨_, rfl, rfl⟩ rfl rfl (Nat.le_of_ble_eq_true rfl) dX9_again_20) (c_X6_get l (k + 1) _ _ _ _ j ((qK Q j).getD (qS Q)) hR hj (fun h => by cases hq : qK Q j with | none => rw [hkj.1, hq] at h; exact absurd rfl h | some S => exact hkj.2 S hq)) (by omega) (by decide) ?_
      rintro _ F1 A1 _ _ ⟨⟨e0, rfl, rfl, rfl⟩ | ⟨e0, rfl, hS1, hg1⟩, rfl, rfl⟩
      · refine wp_if_ne 29 dX9_again_23 (by decide) (fun c3 => ?_) (fun c3 => ?_)
        · exact absurd rfl c3
        · refine wp_bipush (v := (-3)) dX9_again_26 (by decide) ?_
          exact wp_iret hC rfl rfl dX9_again_28 (pI_ok (by unfold wAgain; rw [if_neg c1, if_pos c2, nI_clamp (by omega), if_neg (by intro h; rw [hkj.1, if_pos h] at e0; exact absurd e0 (by decide))]; exact ⟨rfl, hX, frX.refl _ _ _ _⟩))
      · have hsm : (qK Q j).isSome = true := by cases hq : qK Q j with | none => rw [hkj.1, hq] at e0; exact absurd rfl e0 | some S => rfl
        have hdS : dn ((qK Q j).getD (qS Q)) := by cases hq : qK Q j with | none => rw [hq] at hsm; cases hsm | some S => exact (hwK j S hq).1
        refine wp_if_ne 29 dX9_again_23 (by decide) (fun c4 => ?_) (fun c4 => ?_)
        · refine wp_aload_n dX9_again_29 rfl 0 rfl ?_
          refine wp_getO (q := 6) fX9_26 hR rfl (rfl) (by decide) (by decide) rfl dX9_again_30 ?_
          refine wp_callV (mm_siteV (av := []) hC lX9_95 (rfl) (by decide) ⟨_, rfl, rfl⟩ rfl rfl (Nat.le_of_ble_eq_true rfl) dX9_again_33) (c_X0_forgetAll l (k + 4) _ _ _ _) (by omega) (by decide) (by decide) ?_
          rintro F3 A1 _ _ ⟨hF3, rfl, rfl, rfl⟩
          have hS3 : isS F3 A1 3 ((qK Q j).getD (qS Q)) := isS_cong (by rw [hF3]; simp [u2, va_up]) rfl rfl hS1
          refine wp_aload_n dX9_again_36 rfl 0 rfl ?_
          refine wp_getO (q := 3) fX9_19 hR rfl (rfl) (by decide) (by decide) rfl dX9_again_37 ?_
          refine wp_callP (e := manyP (((qK Q j).getD (qS Q)).2.2 2)) (mm_siteV (av := []) hC lX9_292 (rfl) (by decide) ⟨_, rfl, rfl⟩ rfl rfl (Nat.le_of_ble_eq_true rfl) dX9_again_40) (c_X7_howManyDown l (k + 3) _ _ _ _ 3 _ ((qK Q j).getD (qS Q)) rfl hS3 hdS.choose_spec.1 hdS.choose_spec.2) (by omega) (by decide) ?_
          exact wp_iret hC rfl rfl dX9_again_43 (pI_ok (by
        unfold wAgain; rw [if_neg c1, if_pos c2, nI_clamp (by omega), if_pos hsm]
        refine ⟨rfl, hX.ac (fi' := 0) (fun r hr => ⟨?_, hg1.2 r (by omega) (by omega)⟩) hS3 ⟨by rw [hF3]; simp [u2, va_up]; rfl, by rw [hF3]; simp [u2, va_up]; rfl, by decide, fun i S hi => absurd (show ([] : List SV)[i]? = some S from hi) (by simp)⟩⟩
        rw [hF3]; simp only [u2, va_up, show ¬ r = 6 by omega, if_false]; exact hg1.1 r (by omega)))
        · exact absurd c4 (by decide)
    · refine wp_iconst (v := (-1)) dX9_again_9 (by decide) ?_
      exact wp_iret hC rfl rfl dX9_again_10 (pI_ok (by unfold wAgain; (first | rw [if_pos c1] | rw [if_neg c1, if_neg c2]); exact ⟨rfl, hX, frX.refl _ _ _ _⟩))

