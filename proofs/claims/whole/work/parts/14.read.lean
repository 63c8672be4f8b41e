set_option maxRecDepth 100000 in
set_option maxHeartbeats 600000 in
theorem c_X1_huskAt0 (l : Launch) (k : Nat) (F A : mmF) (R : mmR) (G : mmG) (b : Nat) (pl : Int32) (B : BV) (hR : mm_RL R) (hb : mm_K b = 1) (hB : isB F A b B) (hw1 : B.1.1 ≤ 5) : Meets l hX1_huskAt k 144 144 [.ref b, .int pl] F A R G (pP (hAt (B.2 1) pl 0 B.1.1) F A R G) := by
  refine mm_start rfl (Nat.le_of_ble_eq_true rfl) (fun X hC => ?_)
  show WP hX1_huskAt X 144 0 [(0, .ref b), (1, .int pl)] [] F A R G
  refine wp_iconst (v := 0) dX1_huskAt_0 (by decide) ?_
  refine wp_istore_n [1, 2, 0] (by decide) rfl rfl rfl dX1_huskAt_1 rfl ?_
  have lp : ∀ (nn : Nat) (i : Nat), (i ≤ B.1.1) → (hAt (B.2 1) pl 0 B.1.1 = hAt (B.2 1) pl i (B.1.1 - i)) → B.1.1 - i < nn → WP hX1_huskAt X 144 2 [(0, .ref b), (1, .int pl), (2, .int (nI i))] [] F A R G := by
    intro nn
    induction nn with
    | zero => intro i _ _ hm; exact absurd hm (Nat.not_lt_zero _)
    | succ nn ih_lp =>
      intro i hi hv hm_lp
      refine wp_iload_n dX1_huskAt_2 rfl 2 rfl ?_
      refine wp_aload_n dX1_huskAt_3 rfl 0 rfl ?_
      refine wp_getI fX1_39 rfl (hb) (bo_l0 hb) dX1_huskAt_4 ?_
      refine wp_top (x' := nI B.1.1) (hB.1.1) ?_
      refine wp_icmp_ge 28 dX1_huskAt_7 (by decide) (fun c1 => ?_) (fun c1 => ?_)
      · replace c1 := (ix_le (a := B.1.1) (b := i) (rfl) (rfl) (by omega) (by omega)).mp c1
        refine wp_bipush (v := (-9)) dX1_huskAt_28 (by decide) ?_
        exact wp_iret hC rfl rfl dX1_huskAt_30 (pP_ok (by rw [hv, show B.1.1 - i = 0 by omega]; rfl))
      · replace c1 := mt (ix_le (a := B.1.1) (b := i) (rfl) (rfl) (by omega) (by omega)).mpr c1
        refine wp_aload_n dX1_huskAt_10 rfl 0 rfl ?_
        refine wp_getO (q := b + 1) fX1_9 hR rfl (hb) (bo_l0 hb) (by decide) rfl dX1_huskAt_11 ?_
        refine wp_iload_n dX1_huskAt_14 rfl 2 rfl ?_
        refine wp_iald i (rfl) (bo_k1 hb) (bo_l1 hb) (bo_i1 hb (by omega)) dX1_huskAt_15 ?_
        refine wp_top (x' := B.2 1 i) ((hB.2.1 i (by omega)).1) ?_
        refine wp_iload_n dX1_huskAt_16 rfl 1 rfl ?_
        refine wp_icmp_ne 22 dX1_huskAt_17 (by decide) (fun c2 => ?_) (fun c2 => ?_)
        · refine wp_iinc (v := nI (i + 1)) 2 rfl (by exact nI_1 i) [1, 2, 0] (by decide) rfl rfl rfl dX1_huskAt_22 ?_
          refine wp_goto 2 dX1_huskAt_25 (by decide) ?_
          exact ih_lp (i + 1) (by omega) (by rw [hv, show B.1.1 - i = B.1.1 - (i + 1) + 1 by omega, hAt, if_neg c2]) (by omega)
        · refine wp_iload_n dX1_huskAt_20 rfl 2 rfl ?_
          exact wp_iret hC rfl rfl dX1_huskAt_21 (pP_ok (by rw [hv, show B.1.1 - i = B.1.1 - (i + 1) + 1 by omega, hAt, if_pos c2]))
  exact lp (B.1.1 + 1) 0 (Nat.zero_le _) (by rw [Nat.sub_zero]) (by omega)

set_option maxRecDepth 100000 in
set_option maxHeartbeats 600000 in
theorem c_X1_readHusk (l : Launch) (k : Nat) (F A : mmF) (R : mmR) (G : mmG) (b p : Nat) (n : Nat) (tx : Nat → Int32) (B : BV) (hR : mm_RL R) (hb : mm_K b = 1) (hB : isB F A b B) (hw : B.1.1 ≤ 5 ∧ B.1.2.1 ≤ 4 ∧ B.1.2.2 ≤ 4) (hp : p < 64) (hn : n ≤ 60) (hl : F 1 1 = nI n) (ht : ∀ j, j < n → A 2 j = tx j) : Meets l hX1_readHusk (k + 2) 144 144 [.ref b, .ref 1, .int (nI p)] F A R G (pI (fun v F1 A1 R1 G1 => v = (readHP tx n B p).2 ∧ isB F1 A1 b (readHP tx n B p).1 ∧ frB b F A F1 A1 ∧ F1 b 12 = F b 12 ∧ F1 b 13 = F b 13 ∧ R = R1 ∧ G = G1)) := by
  refine mm_start rfl (Nat.le_of_ble_eq_true rfl) (fun X hC => ?_)
  show WP hX1_readHusk X 144 0 [(0, .ref b), (1, .ref 1), (2, .int (nI p))] [] F A R G
  refine wp_aload_n dX1_readHusk_0 rfl 0 rfl ?_
  refine wp_getI fX1_39 rfl (hb) (bo_l0 hb) dX1_readHusk_1 ?_
  refine wp_top (x' := nI B.1.1) (hB.1.1) ?_
  refine wp_iconst (v := 5) dX1_readHusk_4 (by decide) ?_
  refine wp_icmp_lt 10 dX1_readHusk_5 (by decide) (fun c1 => ?_) (fun c1 => ?_)
  · replace c1 := (ix_lt (a := B.1.1) (b := 5) (rfl) (rfl) (by omega) (by omega)).mp c1
    refine wp_aload_n dX1_readHusk_10 rfl 1 rfl ?_
    refine wp_iload_n dX1_readHusk_11 rfl 2 rfl ?_
    refine wp_iconst (v := 1) dX1_readHusk_12 (by decide) ?_
    refine wp_iadd dX1_readHusk_13 ?_
    refine wp_top (x' := nI (p + 1)) (nI_add p 1) ?_
    refine wp_iconst (v := 0) dX1_readHusk_14 (by decide) ?_
    refine wp_bipush (v := 7) dX1_readHusk_15 (by decide) ?_
    refine wp_callP (mm_siteV (av := [.int (nI (p + 1)), .int 0, .int 7]) hC lX1_61 (rfl) (by decide) ⟨_, rfl, rfl⟩ rfl rfl (Nat.le_of_ble_eq_true rfl) dX1_readHusk_17) (c_X8_figureAt l (k) _ _ _ _ (p + 1) n _ _ tx hR (by omega) hn hl ht) (by omega) (by decide) ?_
    refine wp_istore_n [1, 2, 3, 0] (by decide) rfl rfl rfl dX1_readHusk_20 rfl ?_
    refine wp_iload_n dX1_readHusk_21 rfl 3 rfl ?_
    refine wp_bipush (v := (-9)) dX1_readHusk_22 (by decide) ?_
    refine wp_icmp_eq 37 dX1_readHusk_24 (by decide) (fun c2 => ?_) (fun c2 => ?_)
    · refine wp_iload_n dX1_readHusk_37 rfl 2 rfl ?_
      refine wp_iconst (v := 1) dX1_readHusk_38 (by decide) ?_
      refine wp_iadd dX1_readHusk_39 ?_
      refine wp_top (x' := nI (p + 1)) (nI_add p 1) ?_
      exact wp_iret hC rfl rfl dX1_readHusk_40 (pI_ok (by rw [show readHP tx n B p = (B, nI (p + 1)) from by unfold readHP; simp [*]]; exact ⟨rfl, hB, frB.refl b F A, rfl, rfl, rfl, rfl⟩))
    · refine wp_aload_n dX1_readHusk_27 rfl 0 rfl ?_
      refine wp_iload_n dX1_readHusk_28 rfl 3 rfl ?_
      refine wp_callP (mm_siteV (av := [.int (figP tx n (p + 1) 0 7)]) hC lX1_81 (hb) (bo_l0 hb) ⟨_, rfl, rfl⟩ rfl rfl (Nat.le_of_ble_eq_true rfl) dX1_readHusk_29) (c_X1_huskAt0 l (k + 1) _ _ _ _ _ _ B hR hb hB hw.1) (by omega) (by decide) ?_
      refine wp_bipush (v := (-9)) dX1_readHusk_32 (by decide) ?_
      refine wp_icmp_eq 41 dX1_readHusk_34 (by decide) (fun c3 => ?_) (fun c3 => ?_)
      · refine wp_aload_n dX1_readHusk_41 rfl 1 rfl ?_
        refine wp_iload_n dX1_readHusk_42 rfl 2 rfl ?_
        refine wp_iconst (v := 2) dX1_readHusk_43 (by decide) ?_
        refine wp_iadd dX1_readHusk_44 ?_
        refine wp_top (x' := nI (p + 2)) (nI_add p 2) ?_
        refine wp_iconst (v := 1) dX1_readHusk_45 (by decide) ?_
        refine wp_bipush (v := 9) dX1_readHusk_46 (by decide) ?_
        refine wp_callP (mm_siteV (av := [.int (nI (p + 2)), .int 1, .int 9]) hC lX1_61 (rfl) (by decide) ⟨_, rfl, rfl⟩ rfl rfl (Nat.le_of_ble_eq_true rfl) dX1_readHusk_48) (c_X8_figureAt l (k) _ _ _ _ (p + 2) n _ _ tx hR (by omega) hn hl ht) (by omega) (by decide) ?_
        refine wp_istore [1, 2, 3, 4, 0] (by decide) rfl rfl rfl dX1_readHusk_51 ?_
        refine wp_iload dX1_readHusk_53 4 rfl ?_
        refine wp_bipush (v := (-9)) dX1_readHusk_55 (by decide) ?_
        refine wp_icmp_ne 64 dX1_readHusk_57 (by decide) (fun c4 => ?_) (fun c4 => ?_)
        · refine wp_aload_n dX1_readHusk_64 rfl 1 rfl ?_
          refine wp_iload_n dX1_readHusk_65 rfl 2 rfl ?_
          refine wp_iconst (v := 3) dX1_readHusk_66 (by decide) ?_
          refine wp_iadd dX1_readHusk_67 ?_
          refine wp_top (x' := nI (p + 3)) (nI_add p 3) ?_
          refine wp_iconst (v := 0) dX1_readHusk_68 (by decide) ?_
          refine wp_iconst (v := 3) dX1_readHusk_69 (by decide) ?_
          refine wp_callP (mm_siteV (av := [.int (nI (p + 3)), .int 0, .int 3]) hC lX1_61 (rfl) (by decide) ⟨_, rfl, rfl⟩ rfl rfl (Nat.le_of_ble_eq_true rfl) dX1_readHusk_70) (c_X8_figureAt l (k) _ _ _ _ (p + 3) n _ _ tx hR (by omega) hn hl ht) (by omega) (by decide) ?_
          refine wp_istore [1, 2, 3, 4, 5, 0] (by decide) rfl rfl rfl dX1_readHusk_73 ?_
          refine wp_iload dX1_readHusk_75 5 rfl ?_
          refine wp_bipush (v := (-9)) dX1_readHusk_77 (by decide) ?_
          refine wp_icmp_ne 86 dX1_readHusk_79 (by decide) (fun c5 => ?_) (fun c5 => ?_)
          · refine wp_aload_n dX1_readHusk_86 rfl 0 rfl ?_
            refine wp_getO (q := b + 1) fX1_9 hR rfl (hb) (bo_l0 hb) (by decide) rfl dX1_readHusk_87 ?_
            refine wp_aload_n dX1_readHusk_90 rfl 0 rfl ?_
            refine wp_getI fX1_39 rfl (hb) (bo_l0 hb) dX1_readHusk_91 ?_
            refine wp_top (x' := nI B.1.1) (hB.1.1) ?_
            refine wp_iload_n dX1_readHusk_94 rfl 3 rfl ?_
            refine wp_iast B.1.1 (rfl) (bo_k1 hb) (bo_l1 hb) (bo_i1 hb (by omega)) dX1_readHusk_95 ?_
            refine wp_aload_n dX1_readHusk_96 rfl 0 rfl ?_
            refine wp_getO (q := b + 2) fX1_15 hR rfl (hb) (bo_l0 hb) (by decide) rfl dX1_readHusk_97 ?_
            refine wp_aload_n dX1_readHusk_100 rfl 0 rfl ?_
            refine wp_getI fX1_39 rfl (hb) (bo_l0 hb) dX1_readHusk_101 ?_
            refine wp_top (x' := nI B.1.1) (hB.1.1) ?_
            refine wp_iload dX1_readHusk_104 4 rfl ?_
            refine wp_iast B.1.1 (rfl) (bo_k2 hb) (bo_l2 hb) (bo_i2 hb (by omega)) dX1_readHusk_106 ?_
            refine wp_aload_n dX1_readHusk_107 rfl 0 rfl ?_
            refine wp_getO (q := b + 3) fX1_18 hR rfl (hb) (bo_l0 hb) (by decide) rfl dX1_readHusk_108 ?_
            refine wp_aload_n dX1_readHusk_111 rfl 0 rfl ?_
            refine wp_getI fX1_39 rfl (hb) (bo_l0 hb) dX1_readHusk_112 ?_
            refine wp_top (x' := nI B.1.1) (hB.1.1) ?_
            refine wp_iload dX1_readHusk_115 5 rfl ?_
            refine wp_iast B.1.1 (rfl) (bo_k3 hb) (bo_l3 hb) (bo_i3 hb (by omega)) dX1_readHusk_117 ?_
            refine wp_aload_n dX1_readHusk_118 rfl 0 rfl ?_
            refine wp_dup dX1_readHusk_119 rfl ?_
            refine wp_getI fX1_39 rfl (hb) (bo_l0 hb) dX1_readHusk_120 ?_
            refine wp_top (x' := nI B.1.1) (hB.1.1) ?_
            refine wp_iconst (v := 1) dX1_readHusk_123 (by decide) ?_
            refine wp_iadd dX1_readHusk_124 ?_
            refine wp_top (x' := nI (B.1.1 + 1)) (nI_1 B.1.1) ?_
            refine wp_putI fX1_39 fn_1_9 rfl (hb) (bo_l0 hb) dX1_readHusk_125 ?_
            refine wp_bipush (v := (-9)) dX1_readHusk_128 (by decide) ?_
            exact wp_iret hC rfl rfl dX1_readHusk_130 (pI_ok (by rw [show readHP tx n B p = (addH B (figP tx n (p + 1) 0 7) (figP tx n (p + 2) 1 9) (figP tx n (p + 3) 0 3), -9) from by unfold readHP; simp [*]]; exact ⟨rfl, isB_addH _ _ _ hB, ⟨fun r hr => by simp [u2, va_up, hr], fun r hr => by simp [u2, va_up, show ¬ r = b + 1 by omega, show ¬ r = b + 2 by omega, show ¬ r = b + 3 by omega]⟩, by simp [u2, va_up], by simp [u2, va_up], rfl, rfl⟩))
          · refine wp_iload_n dX1_readHusk_82 rfl 2 rfl ?_
            refine wp_iconst (v := 3) dX1_readHusk_83 (by decide) ?_
            refine wp_iadd dX1_readHusk_84 ?_
            refine wp_top (x' := nI (p + 3)) (nI_add p 3) ?_
            exact wp_iret hC rfl rfl dX1_readHusk_85 (pI_ok (by rw [show readHP tx n B p = (B, nI (p + 3)) from by unfold readHP; simp [*]]; exact ⟨rfl, hB, frB.refl b F A, rfl, rfl, rfl, rfl⟩))
        · refine wp_iload_n dX1_readHusk_60 rfl 2 rfl ?_
          refine wp_iconst (v := 2) dX1_readHusk_61 (by decide) ?_
          refine wp_iadd dX1_readHusk_62 ?_
          refine wp_top (x' := nI (p + 2)) (nI_add p 2) ?_
          exact wp_iret hC rfl rfl dX1_readHusk_63 (pI_ok (by rw [show readHP tx n B p = (B, nI (p + 2)) from by unfold readHP; simp [*]]; exact ⟨rfl, hB, frB.refl b F A, rfl, rfl, rfl, rfl⟩))
      · refine wp_iload_n dX1_readHusk_37 rfl 2 rfl ?_
        refine wp_iconst (v := 1) dX1_readHusk_38 (by decide) ?_
        refine wp_iadd dX1_readHusk_39 ?_
        refine wp_top (x' := nI (p + 1)) (nI_add p 1) ?_
        exact wp_iret hC rfl rfl dX1_readHusk_40 (pI_ok (by rw [show readHP tx n B p = (B, nI (p + 1)) from by unfold readHP; simp [*]]; exact ⟨rfl, hB, frB.refl b F A, rfl, rfl, rfl, rfl⟩))
  · replace c1 := mt (ix_lt (a := B.1.1) (b := 5) (rfl) (rfl) (by omega) (by omega)).mpr c1
    refine wp_iload_n dX1_readHusk_8 rfl 2 rfl ?_
    exact wp_iret hC rfl rfl dX1_readHusk_9 (pI_ok (by rw [show readHP tx n B p = (B, nI p) from by unfold readHP; simp [*]]; exact ⟨rfl, hB, frB.refl b F A, rfl, rfl, rfl, rfl⟩))

set_option maxRecDepth 100000 in
set_option maxHeartbeats 600000 in
theorem c_X1_readThrower (l : Launch) (k : Nat) (F A : mmF) (R : mmR) (G : mmG) (b p : Nat) (n : Nat) (tx : Nat → Int32) (B : BV) (hR : mm_RL R) (hb : mm_K b = 1) (hB : isB F A b B) (hw : B.1.1 ≤ 5 ∧ B.1.2.1 ≤ 4 ∧ B.1.2.2 ≤ 4) (hp : p < 64) (hn : n ≤ 60) (hl : F 1 1 = nI n) (ht : ∀ j, j < n → A 2 j = tx j) : Meets l hX1_readThrower (k + 2) 144 144 [.ref b, .ref 1, .int (nI p)] F A R G (pI (fun v F1 A1 R1 G1 => v = (readTP tx n B p).2 ∧ isB F1 A1 b (readTP tx n B p).1 ∧ frB b F A F1 A1 ∧ F1 b 12 = F b 12 ∧ F1 b 13 = F b 13 ∧ R = R1 ∧ G = G1)) := by
  refine mm_start rfl (Nat.le_of_ble_eq_true rfl) (fun X hC => ?_)
  show WP hX1_readThrower X 144 0 [(0, .ref b), (1, .ref 1), (2, .int (nI p))] [] F A R G
  refine wp_aload_n dX1_readThrower_0 rfl 0 rfl ?_
  refine wp_getI fX1_43 rfl (hb) (bo_l0 hb) dX1_readThrower_1 ?_
  refine wp_top (x' := nI B.1.2.1) (hB.1.2.1) ?_
  refine wp_iconst (v := 4) dX1_readThrower_4 (by decide) ?_
  refine wp_icmp_lt 10 dX1_readThrower_5 (by decide) (fun c1 => ?_) (fun c1 => ?_)
  · replace c1 := (ix_lt (a := B.1.2.1) (b := 4) (rfl) (rfl) (by omega) (by omega)).mp c1
    refine wp_aload_n dX1_readThrower_10 rfl 1 rfl ?_
    refine wp_iload_n dX1_readThrower_11 rfl 2 rfl ?_
    refine wp_iconst (v := 1) dX1_readThrower_12 (by decide) ?_
    refine wp_iadd dX1_readThrower_13 ?_
    refine wp_top (x' := nI (p + 1)) (nI_add p 1) ?_
    refine wp_iconst (v := 0) dX1_readThrower_14 (by decide) ?_
    refine wp_iconst (v := 3) dX1_readThrower_15 (by decide) ?_
    refine wp_callP (mm_siteV (av := [.int (nI (p + 1)), .int 0, .int 3]) hC lX1_61 (rfl) (by decide) ⟨_, rfl, rfl⟩ rfl rfl (Nat.le_of_ble_eq_true rfl) dX1_readThrower_16) (c_X8_figureAt l k _ _ _ _ (p + 1) n _ _ tx hR (by omega) hn hl ht) (by omega) (by decide) ?_
    refine wp_istore_n [1, 2, 3, 0] (by decide) rfl rfl rfl dX1_readThrower_19 rfl ?_
    refine wp_iload_n dX1_readThrower_20 rfl 3 rfl ?_
    refine wp_bipush (v := (-9)) dX1_readThrower_21 (by decide) ?_
    refine wp_icmp_ne 30 dX1_readThrower_23 (by decide) (fun c2 => ?_) (fun c2 => ?_)
    · refine wp_aload_n dX1_readThrower_30 rfl 1 rfl ?_
      refine wp_iload_n dX1_readThrower_31 rfl 2 rfl ?_
      refine wp_iconst (v := 2) dX1_readThrower_32 (by decide) ?_
      refine wp_iadd dX1_readThrower_33 ?_
      refine wp_top (x' := nI (p + 2)) (nI_add p 2) ?_
      refine wp_iconst (v := 1) dX1_readThrower_34 (by decide) ?_
      refine wp_bipush (v := 9) dX1_readThrower_35 (by decide) ?_
      refine wp_callP (mm_siteV (av := [.int (nI (p + 2)), .int 1, .int 9]) hC lX1_61 (rfl) (by decide) ⟨_, rfl, rfl⟩ rfl rfl (Nat.le_of_ble_eq_true rfl) dX1_readThrower_37) (c_X8_figureAt l k _ _ _ _ (p + 2) n _ _ tx hR (by omega) hn hl ht) (by omega) (by decide) ?_
      refine wp_istore [1, 2, 3, 4, 0] (by decide) rfl rfl rfl dX1_readThrower_40 ?_
      refine wp_iload dX1_readThrower_42 4 rfl ?_
      refine wp_bipush (v := (-9)) dX1_readThrower_44 (by decide) ?_
      refine wp_icmp_ne 53 dX1_readThrower_46 (by decide) (fun c3 => ?_) (fun c3 => ?_)
      · refine wp_aload_n dX1_readThrower_53 rfl 1 rfl ?_
        refine wp_iload_n dX1_readThrower_54 rfl 2 rfl ?_
        refine wp_iconst (v := 3) dX1_readThrower_55 (by decide) ?_
        refine wp_iadd dX1_readThrower_56 ?_
        refine wp_top (x' := nI (p + 3)) (nI_add p 3) ?_
        refine wp_iconst (v := 0) dX1_readThrower_57 (by decide) ?_
        refine wp_iconst (v := 3) dX1_readThrower_58 (by decide) ?_
        refine wp_callP (mm_siteV (av := [.int (nI (p + 3)), .int 0, .int 3]) hC lX1_61 (rfl) (by decide) ⟨_, rfl, rfl⟩ rfl rfl (Nat.le_of_ble_eq_true rfl) dX1_readThrower_59) (c_X8_figureAt l k _ _ _ _ (p + 3) n _ _ tx hR (by omega) hn hl ht) (by omega) (by decide) ?_
        refine wp_istore [1, 2, 3, 4, 5, 0] (by decide) rfl rfl rfl dX1_readThrower_62 ?_
        refine wp_iload dX1_readThrower_64 5 rfl ?_
        refine wp_bipush (v := (-9)) dX1_readThrower_66 (by decide) ?_
        refine wp_icmp_ne 75 dX1_readThrower_68 (by decide) (fun c4 => ?_) (fun c4 => ?_)
        · refine wp_aload_n dX1_readThrower_75 rfl 0 rfl ?_
          refine wp_getO (q := b + 4) fX1_21 hR rfl (hb) (bo_l0 hb) (by decide) rfl dX1_readThrower_76 ?_
          refine wp_aload_n dX1_readThrower_79 rfl 0 rfl ?_
          refine wp_getI fX1_43 rfl (hb) (bo_l0 hb) dX1_readThrower_80 ?_
          refine wp_top (x' := nI B.1.2.1) (hB.1.2.1) ?_
          refine wp_iload_n dX1_readThrower_83 rfl 3 rfl ?_
          refine wp_iast B.1.2.1 (rfl) (bo_k4 hb) (bo_l4 hb) (bo_i4 hb (by omega)) dX1_readThrower_84 ?_
          refine wp_aload_n dX1_readThrower_85 rfl 0 rfl ?_
          refine wp_getO (q := b + 5) fX1_24 hR rfl (hb) (bo_l0 hb) (by decide) rfl dX1_readThrower_86 ?_
          refine wp_aload_n dX1_readThrower_89 rfl 0 rfl ?_
          refine wp_getI fX1_43 rfl (hb) (bo_l0 hb) dX1_readThrower_90 ?_
          refine wp_top (x' := nI B.1.2.1) (hB.1.2.1) ?_
          refine wp_iload dX1_readThrower_93 4 rfl ?_
          refine wp_iast B.1.2.1 (rfl) (bo_k5 hb) (bo_l5 hb) (bo_i5 hb (by omega)) dX1_readThrower_95 ?_
          refine wp_aload_n dX1_readThrower_96 rfl 0 rfl ?_
          refine wp_getO (q := b + 6) fX1_27 hR rfl (hb) (bo_l0 hb) (by decide) rfl dX1_readThrower_97 ?_
          refine wp_aload_n dX1_readThrower_100 rfl 0 rfl ?_
          refine wp_getI fX1_43 rfl (hb) (bo_l0 hb) dX1_readThrower_101 ?_
          refine wp_top (x' := nI B.1.2.1) (hB.1.2.1) ?_
          refine wp_iload dX1_readThrower_104 5 rfl ?_
          refine wp_iast B.1.2.1 (rfl) (bo_k6 hb) (bo_l6 hb) (bo_i6 hb (by omega)) dX1_readThrower_106 ?_
          refine wp_aload_n dX1_readThrower_107 rfl 0 rfl ?_
          refine wp_dup dX1_readThrower_108 rfl ?_
          refine wp_getI fX1_43 rfl (hb) (bo_l0 hb) dX1_readThrower_109 ?_
          refine wp_top (x' := nI B.1.2.1) (hB.1.2.1) ?_
          refine wp_iconst (v := 1) dX1_readThrower_112 (by decide) ?_
          refine wp_iadd dX1_readThrower_113 ?_
          refine wp_top (x' := nI (B.1.2.1 + 1)) (nI_1 B.1.2.1) ?_
          refine wp_putI fX1_43 fn_1_10 rfl (hb) (bo_l0 hb) dX1_readThrower_114 ?_
          refine wp_bipush (v := (-9)) dX1_readThrower_117 (by decide) ?_
          exact wp_iret hC rfl rfl dX1_readThrower_119 (pI_ok (by rw [show readTP tx n B p = (addT B (figP tx n (p + 1) 0 3) (figP tx n (p + 2) 1 9) (figP tx n (p + 3) 0 3), -9) from by unfold readTP; simp [*]]; exact ⟨rfl, isB_addT _ _ _ hB, ⟨fun r hr => by simp [u2, va_up, hr], fun r hr => by simp [u2, va_up, show ¬ r = b + 4 by omega, show ¬ r = b + 5 by omega, show ¬ r = b + 6 by omega]⟩, by simp [u2, va_up], by simp [u2, va_up], rfl, rfl⟩))
        · refine wp_iload_n dX1_readThrower_71 rfl 2 rfl ?_
          refine wp_iconst (v := 3) dX1_readThrower_72 (by decide) ?_
          refine wp_iadd dX1_readThrower_73 ?_
          refine wp_top (x' := nI (p + 3)) (nI_add p 3) ?_
          exact wp_iret hC rfl rfl dX1_readThrower_74 (pI_ok (by rw [show readTP tx n B p = (B, nI (p + 3)) from by unfold readTP; simp [*]]; exact ⟨rfl, hB, frB.refl b F A, rfl, rfl, rfl, rfl⟩))
      · refine wp_iload_n dX1_readThrower_49 rfl 2 rfl ?_
        refine wp_iconst (v := 2) dX1_readThrower_50 (by decide) ?_
        refine wp_iadd dX1_readThrower_51 ?_
        refine wp_top (x' := nI (p + 2)) (nI_add p 2) ?_
        exact wp_iret hC rfl rfl dX1_readThrower_52 (pI_ok (by rw [show readTP tx n B p = (B, nI (p + 2)) from by unfold readTP; simp [*]]; exact ⟨rfl, hB, frB.refl b F A, rfl, rfl, rfl, rfl⟩))
    · refine wp_iload_n dX1_readThrower_26 rfl 2 rfl ?_
      refine wp_iconst (v := 1) dX1_readThrower_27 (by decide) ?_
      refine wp_iadd dX1_readThrower_28 ?_
      refine wp_top (x' := nI (p + 1)) (nI_add p 1) ?_
      exact wp_iret hC rfl rfl dX1_readThrower_29 (pI_ok (by rw [show readTP tx n B p = (B, nI (p + 1)) from by unfold readTP; simp [*]]; exact ⟨rfl, hB, frB.refl b F A, rfl, rfl, rfl, rfl⟩))
  · replace c1 := mt (ix_lt (a := B.1.2.1) (b := 4) (rfl) (rfl) (by omega) (by omega)).mpr c1
    refine wp_iload_n dX1_readThrower_8 rfl 2 rfl ?_
    exact wp_iret hC rfl rfl dX1_readThrower_9 (pI_ok (by rw [show readTP tx n B p = (B, nI p) from by unfold readTP; simp [*]]; exact ⟨rfl, hB, frB.refl b F A, rfl, rfl, rfl, rfl⟩))

set_option maxRecDepth 100000 in
set_option maxHeartbeats 600000 in
theorem c_X1_readLaw (l : Launch) (k : Nat) (F A : mmF) (R : mmR) (G : mmG) (b p : Nat) (n : Nat) (tx : Nat → Int32) (B : BV) (hR : mm_RL R) (hb : mm_K b = 1) (hB : isB F A b B) (hw : B.1.1 ≤ 5 ∧ B.1.2.1 ≤ 4 ∧ B.1.2.2 ≤ 4) (hp : p < 64) (hn : n ≤ 60) (hl : F 1 1 = nI n) (ht : ∀ j, j < n → A 2 j = tx j) : Meets l hX1_readLaw (k + 2) 144 144 [.ref b, .ref 1, .int (nI p)] F A R G (pI (fun v F1 A1 R1 G1 => v = (readLP tx n B p).2 ∧ isB F1 A1 b (readLP tx n B p).1 ∧ frB b F A F1 A1 ∧ F1 b 12 = F b 12 ∧ F1 b 13 = F b 13 ∧ R = R1 ∧ G = G1)) := by
  refine mm_start rfl (Nat.le_of_ble_eq_true rfl) (fun X hC => ?_)
  show WP hX1_readLaw X 144 0 [(0, .ref b), (1, .ref 1), (2, .int (nI p))] [] F A R G
  refine wp_aload_n dX1_readLaw_0 rfl 0 rfl ?_
  refine wp_getI fX1_46 rfl (hb) (bo_l0 hb) dX1_readLaw_1 ?_
  refine wp_top (x' := nI B.1.2.2) (hB.1.2.2) ?_
  refine wp_iconst (v := 4) dX1_readLaw_4 (by decide) ?_
  refine wp_icmp_ge 16 dX1_readLaw_5 (by decide) (fun c1 => ?_) (fun c1 => ?_)
  · replace c1 := (ix_le (a := 4) (b := B.1.2.2) (rfl) (rfl) (by omega) (by omega)).mp c1
    refine wp_iload_n dX1_readLaw_16 rfl 2 rfl ?_
    exact wp_iret hC rfl rfl dX1_readLaw_17 (pI_ok (by rw [show readLP tx n B p = (B, nI p) from by unfold readLP; simp [*]]; exact ⟨rfl, hB, frB.refl b F A, rfl, rfl, rfl, rfl⟩))
  · replace c1 := mt (ix_le (a := 4) (b := B.1.2.2) (rfl) (rfl) (by omega) (by omega)).mpr c1
    refine wp_aload_n dX1_readLaw_8 rfl 0 rfl ?_
    refine wp_getI fX1_39 rfl (hb) (bo_l0 hb) dX1_readLaw_9 ?_
    refine wp_top (x' := nI B.1.1) (hB.1.1) ?_
    refine wp_iconst (v := 2) dX1_readLaw_12 (by decide) ?_
    refine wp_icmp_ge 18 dX1_readLaw_13 (by decide) (fun c2 => ?_) (fun c2 => ?_)
    · replace c2 := (ix_le (a := 2) (b := B.1.1) (rfl) (rfl) (by omega) (by omega)).mp c2
      refine wp_aload_n dX1_readLaw_18 rfl 1 rfl ?_
      refine wp_iload_n dX1_readLaw_19 rfl 2 rfl ?_
      refine wp_iconst (v := 1) dX1_readLaw_20 (by decide) ?_
      refine wp_iadd dX1_readLaw_21 ?_
      refine wp_top (x' := nI (p + 1)) (nI_add p 1) ?_
      refine wp_iconst (v := 0) dX1_readLaw_22 (by decide) ?_
      refine wp_aload_n dX1_readLaw_23 rfl 0 rfl ?_
      refine wp_getI fX1_39 rfl (hb) (bo_l0 hb) dX1_readLaw_24 ?_
      refine wp_top (x' := nI B.1.1) (hB.1.1) ?_
      refine wp_iconst (v := 1) dX1_readLaw_27 (by decide) ?_
      refine wp_isub dX1_readLaw_28 ?_
      refine wp_top (x' := nI (B.1.1 - 1)) (ix_sub (a := B.1.1) (b := 1) rfl rfl (by omega)) ?_
      refine wp_callP (mm_siteV (av := [.int (nI (p + 1)), .int 0, .int (nI (B.1.1 - 1))]) hC lX1_61 (rfl) (by decide) ⟨_, rfl, rfl⟩ rfl rfl (Nat.le_of_ble_eq_true rfl) dX1_readLaw_29) (c_X8_figureAt l k _ _ _ _ (p + 1) n _ _ tx hR (by omega) hn hl ht) (by omega) (by decide) ?_
      refine wp_istore_n [1, 2, 3, 0] (by decide) rfl rfl rfl dX1_readLaw_32 rfl ?_
      refine wp_iload_n dX1_readLaw_33 rfl 3 rfl ?_
      refine wp_bipush (v := (-9)) dX1_readLaw_34 (by decide) ?_
      refine wp_icmp_ne 43 dX1_readLaw_36 (by decide) (fun c3 => ?_) (fun c3 => ?_)
      · refine wp_aload_n dX1_readLaw_43 rfl 1 rfl ?_
        refine wp_iload_n dX1_readLaw_44 rfl 2 rfl ?_
        refine wp_iconst (v := 2) dX1_readLaw_45 (by decide) ?_
        refine wp_iadd dX1_readLaw_46 ?_
        refine wp_top (x' := nI (p + 2)) (nI_add p 2) ?_
        refine wp_iconst (v := 0) dX1_readLaw_47 (by decide) ?_
        refine wp_aload_n dX1_readLaw_48 rfl 0 rfl ?_
        refine wp_getI fX1_39 rfl (hb) (bo_l0 hb) dX1_readLaw_49 ?_
        refine wp_top (x' := nI B.1.1) (hB.1.1) ?_
        refine wp_iconst (v := 1) dX1_readLaw_52 (by decide) ?_
        refine wp_isub dX1_readLaw_53 ?_
        refine wp_top (x' := nI (B.1.1 - 1)) (ix_sub (a := B.1.1) (b := 1) rfl rfl (by omega)) ?_
        refine wp_callP (mm_siteV (av := [.int (nI (p + 2)), .int 0, .int (nI (B.1.1 - 1))]) hC lX1_61 (rfl) (by decide) ⟨_, rfl, rfl⟩ rfl rfl (Nat.le_of_ble_eq_true rfl) dX1_readLaw_54) (c_X8_figureAt l k _ _ _ _ (p + 2) n _ _ tx hR (by omega) hn hl ht) (by omega) (by decide) ?_
        refine wp_istore [1, 2, 3, 4, 0] (by decide) rfl rfl rfl dX1_readLaw_57 ?_
        refine wp_iload dX1_readLaw_59 4 rfl ?_
        refine wp_bipush (v := (-9)) dX1_readLaw_61 (by decide) ?_
        refine wp_icmp_eq 72 dX1_readLaw_63 (by decide) (fun c4 => ?_) (fun c4 => ?_)
        · refine wp_iload_n dX1_readLaw_72 rfl 2 rfl ?_
          refine wp_iconst (v := 2) dX1_readLaw_73 (by decide) ?_
          refine wp_iadd dX1_readLaw_74 ?_
          refine wp_top (x' := nI (p + 2)) (nI_add p 2) ?_
          exact wp_iret hC rfl rfl dX1_readLaw_75 (pI_ok (by rw [show readLP tx n B p = (B, nI (p + 2)) from by unfold readLP; simp [*]]; exact ⟨rfl, hB, frB.refl b F A, rfl, rfl, rfl, rfl⟩))
        · refine wp_iload dX1_readLaw_66 4 rfl ?_
          refine wp_iload_n dX1_readLaw_68 rfl 3 rfl ?_
          refine wp_icmp_ne 76 dX1_readLaw_69 (by decide) (fun c5 => ?_) (fun c5 => ?_)
          · refine wp_aload_n dX1_readLaw_76 rfl 1 rfl ?_
            refine wp_iload_n dX1_readLaw_77 rfl 2 rfl ?_
            refine wp_iconst (v := 3) dX1_readLaw_78 (by decide) ?_
            refine wp_iadd dX1_readLaw_79 ?_
            refine wp_top (x' := nI (p + 3)) (nI_add p 3) ?_
            refine wp_iconst (v := 0) dX1_readLaw_80 (by decide) ?_
            refine wp_iconst (v := 1) dX1_readLaw_81 (by decide) ?_
            refine wp_callP (mm_siteV (av := [.int (nI (p + 3)), .int 0, .int 1]) hC lX1_61 (rfl) (by decide) ⟨_, rfl, rfl⟩ rfl rfl (Nat.le_of_ble_eq_true rfl) dX1_readLaw_82) (c_X8_figureAt l k _ _ _ _ (p + 3) n _ _ tx hR (by omega) hn hl ht) (by omega) (by decide) ?_
            refine wp_istore [1, 2, 3, 4, 5, 0] (by decide) rfl rfl rfl dX1_readLaw_85 ?_
            refine wp_iload dX1_readLaw_87 5 rfl ?_
            refine wp_bipush (v := (-9)) dX1_readLaw_89 (by decide) ?_
            refine wp_icmp_ne 98 dX1_readLaw_91 (by decide) (fun c6 => ?_) (fun c6 => ?_)
            · refine wp_aload_n dX1_readLaw_98 rfl 0 rfl ?_
              refine wp_getO (q := b + 7) fX1_30 hR rfl (hb) (bo_l0 hb) (by decide) rfl dX1_readLaw_99 ?_
              refine wp_aload_n dX1_readLaw_102 rfl 0 rfl ?_
              refine wp_getI fX1_46 rfl (hb) (bo_l0 hb) dX1_readLaw_103 ?_
              refine wp_top (x' := nI B.1.2.2) (hB.1.2.2) ?_
              refine wp_iload_n dX1_readLaw_106 rfl 3 rfl ?_
              refine wp_iast B.1.2.2 (rfl) (bo_k7 hb) (bo_l7 hb) (bo_i7 hb (by omega)) dX1_readLaw_107 ?_
              refine wp_aload_n dX1_readLaw_108 rfl 0 rfl ?_
              refine wp_getO (q := b + 8) fX1_33 hR rfl (hb) (bo_l0 hb) (by decide) rfl dX1_readLaw_109 ?_
              refine wp_aload_n dX1_readLaw_112 rfl 0 rfl ?_
              refine wp_getI fX1_46 rfl (hb) (bo_l0 hb) dX1_readLaw_113 ?_
              refine wp_top (x' := nI B.1.2.2) (hB.1.2.2) ?_
              refine wp_iload dX1_readLaw_116 4 rfl ?_
              refine wp_iast B.1.2.2 (rfl) (bo_k8 hb) (bo_l8 hb) (bo_i8 hb (by omega)) dX1_readLaw_118 ?_
              refine wp_aload_n dX1_readLaw_119 rfl 0 rfl ?_
              refine wp_getO (q := b + 9) fX1_36 hR rfl (hb) (bo_l0 hb) (by decide) rfl dX1_readLaw_120 ?_
              refine wp_aload_n dX1_readLaw_123 rfl 0 rfl ?_
              refine wp_getI fX1_46 rfl (hb) (bo_l0 hb) dX1_readLaw_124 ?_
              refine wp_top (x' := nI B.1.2.2) (hB.1.2.2) ?_
              refine wp_iload dX1_readLaw_127 5 rfl ?_
              refine wp_iast B.1.2.2 (rfl) (bo_k9 hb) (bo_l9 hb) (bo_i9 hb (by omega)) dX1_readLaw_129 ?_
              refine wp_aload_n dX1_readLaw_130 rfl 0 rfl ?_
              refine wp_dup dX1_readLaw_131 rfl ?_
              refine wp_getI fX1_46 rfl (hb) (bo_l0 hb) dX1_readLaw_132 ?_
              refine wp_top (x' := nI B.1.2.2) (hB.1.2.2) ?_
              refine wp_iconst (v := 1) dX1_readLaw_135 (by decide) ?_
              refine wp_iadd dX1_readLaw_136 ?_
              refine wp_top (x' := nI (B.1.2.2 + 1)) (nI_1 B.1.2.2) ?_
              refine wp_putI fX1_46 fn_1_11 rfl (hb) (bo_l0 hb) dX1_readLaw_137 ?_
              refine wp_bipush (v := (-9)) dX1_readLaw_140 (by decide) ?_
              exact wp_iret hC rfl rfl dX1_readLaw_142 (pI_ok (by rw [show readLP tx n B p = (addL B (figP tx n (p + 1) 0 (nI (B.1.1 - 1))) (figP tx n (p + 2) 0 (nI (B.1.1 - 1))) (figP tx n (p + 3) 0 1), -9) from by unfold readLP; simp [*]]; exact ⟨rfl, isB_addL _ _ _ hB, ⟨fun r hr => by simp [u2, va_up, hr], fun r hr => by simp [u2, va_up, show ¬ r = b + 7 by omega, show ¬ r = b + 8 by omega, show ¬ r = b + 9 by omega]⟩, by simp [u2, va_up], by simp [u2, va_up], rfl, rfl⟩))
            · refine wp_iload_n dX1_readLaw_94 rfl 2 rfl ?_
              refine wp_iconst (v := 3) dX1_readLaw_95 (by decide) ?_
              refine wp_iadd dX1_readLaw_96 ?_
              refine wp_top (x' := nI (p + 3)) (nI_add p 3) ?_
              exact wp_iret hC rfl rfl dX1_readLaw_97 (pI_ok (by rw [show readLP tx n B p = (B, nI (p + 3)) from by unfold readLP; simp [*]]; exact ⟨rfl, hB, frB.refl b F A, rfl, rfl, rfl, rfl⟩))
          · refine wp_iload_n dX1_readLaw_72 rfl 2 rfl ?_
            refine wp_iconst (v := 2) dX1_readLaw_73 (by decide) ?_
            refine wp_iadd dX1_readLaw_74 ?_
            refine wp_top (x' := nI (p + 2)) (nI_add p 2) ?_
            exact wp_iret hC rfl rfl dX1_readLaw_75 (pI_ok (by rw [show readLP tx n B p = (B, nI (p + 2)) from by unfold readLP; simp [*]]; exact ⟨rfl, hB, frB.refl b F A, rfl, rfl, rfl, rfl⟩))
      · refine wp_iload_n dX1_readLaw_39 rfl 2 rfl ?_
        refine wp_iconst (v := 1) dX1_readLaw_40 (by decide) ?_
        refine wp_iadd dX1_readLaw_41 ?_
        refine wp_top (x' := nI (p + 1)) (nI_add p 1) ?_
        exact wp_iret hC rfl rfl dX1_readLaw_42 (pI_ok (by rw [show readLP tx n B p = (B, nI (p + 1)) from by unfold readLP; simp [*]]; exact ⟨rfl, hB, frB.refl b F A, rfl, rfl, rfl, rfl⟩))
    · replace c2 := mt (ix_le (a := 2) (b := B.1.1) (rfl) (rfl) (by omega) (by omega)).mpr c2
      refine wp_iload_n dX1_readLaw_16 rfl 2 rfl ?_
      exact wp_iret hC rfl rfl dX1_readLaw_17 (pI_ok (by rw [show readLP tx n B p = (B, nI p) from by unfold readLP; simp [*]]; exact ⟨rfl, hB, frB.refl b F A, rfl, rfl, rfl, rfl⟩))

set_option maxRecDepth 100000 in
set_option maxHeartbeats 600000 in
theorem c_X1_readPart (l : Launch) (k : Nat) (F A : mmF) (R : mmR) (G : mmG) (b p : Nat) (n : Nat) (tx : Nat → Int32) (B : BV) (hR : mm_RL R) (hb : mm_K b = 1) (hB : isB F A b B) (hw : B.1.1 ≤ 5 ∧ B.1.2.1 ≤ 4 ∧ B.1.2.2 ≤ 4) (hp : p < 64) (hn : n ≤ 60) (hl : F 1 1 = nI n) (ht : ∀ j, j < n → A 2 j = tx j) : Meets l hX1_readPart (k + 3) 144 144 [.ref b, .ref 1, .int (nI p)] F A R G (pI (fun v F1 A1 R1 G1 => v = (readQP tx n B p).2 ∧ isB F1 A1 b (readQP tx n B p).1 ∧ frB b F A F1 A1 ∧ F1 b 12 = F b 12 ∧ F1 b 13 = F b 13 ∧ R = R1 ∧ G = G1)) := by
  refine mm_start rfl (Nat.le_of_ble_eq_true rfl) (fun X hC => ?_)
  show WP hX1_readPart X 144 0 [(0, .ref b), (1, .ref 1), (2, .int (nI p))] [] F A R G
  refine wp_aload_n dX1_readPart_0 rfl 1 rfl ?_
  refine wp_iload_n dX1_readPart_1 rfl 2 rfl ?_
  refine wp_callP (e := letP tx n p) (mm_siteV (av := [.int (nI p)]) hC lX1_55 (rfl) (by decide) ⟨_, rfl, rfl⟩ rfl rfl (Nat.le_of_ble_eq_true rfl) dX1_readPart_2) (c_X8_letterAt l (k + 2) _ _ _ _ p n tx hR (by omega) hn hl ht) (by omega) (by decide) ?_
  by_cases h_72 : letP tx n p = 72
  · refine wp_top (x' := 72) h_72 ?_
    refine wp_lookup (off := 35) 40 dX1_readPart_5 (by decide) (by decide) (by decide) ?_
    refine wp_aload_n dX1_readPart_40 rfl 0 rfl ?_
    refine wp_aload_n dX1_readPart_41 rfl 1 rfl ?_
    refine wp_iload_n dX1_readPart_42 rfl 2 rfl ?_
    refine wp_callI (mm_siteV (av := [.ref 1, .int (nI p)]) hC lX1_72 (hb) (bo_l0 hb) ⟨_, rfl, rfl⟩ rfl rfl (Nat.le_of_ble_eq_true rfl) dX1_readPart_43) (c_X1_readHusk l k _ _ _ _ b p n tx B hR hb hB hw hp hn hl ht) (by omega) (by decide) ?_
    rintro _ F_1 A_1 _ _ ⟨rfl, hB1, hf1, hx1, hy1, rfl, rfl⟩
    exact wp_iret hC rfl rfl dX1_readPart_46 (pI_ok (by rw [show readQP tx n B p = readHP tx n B p from by unfold readQP; simp [*]]; exact ⟨rfl, hB1, hf1, hx1, hy1, rfl, rfl⟩))
  · by_cases h_76 : letP tx n p = 76
    · refine wp_top (x' := 76) h_76 ?_
      refine wp_lookup (off := 49) 54 dX1_readPart_5 (by decide) (by decide) (by decide) ?_
      refine wp_aload_n dX1_readPart_54 rfl 0 rfl ?_
      refine wp_aload_n dX1_readPart_55 rfl 1 rfl ?_
      refine wp_iload_n dX1_readPart_56 rfl 2 rfl ?_
      refine wp_callI (mm_siteV (av := [.ref 1, .int (nI p)]) hC lX1_78 (hb) (bo_l0 hb) ⟨_, rfl, rfl⟩ rfl rfl (Nat.le_of_ble_eq_true rfl) dX1_readPart_57) (c_X1_readLaw l k _ _ _ _ b p n tx B hR hb hB hw hp hn hl ht) (by omega) (by decide) ?_
      rintro _ F_1 A_1 _ _ ⟨rfl, hB1, hf1, hx1, hy1, rfl, rfl⟩
      exact wp_iret hC rfl rfl dX1_readPart_60 (pI_ok (by rw [show readQP tx n B p = readLP tx n B p from by unfold readQP; simp [*]]; exact ⟨rfl, hB1, hf1, hx1, hy1, rfl, rfl⟩))
    · by_cases h_84 : letP tx n p = 84
      · refine wp_top (x' := 84) h_84 ?_
        refine wp_lookup (off := 42) 47 dX1_readPart_5 (by decide) (by decide) (by decide) ?_
        refine wp_aload_n dX1_readPart_47 rfl 0 rfl ?_
        refine wp_aload_n dX1_readPart_48 rfl 1 rfl ?_
        refine wp_iload_n dX1_readPart_49 rfl 2 rfl ?_
        refine wp_callI (mm_siteV (av := [.ref 1, .int (nI p)]) hC lX1_75 (hb) (bo_l0 hb) ⟨_, rfl, rfl⟩ rfl rfl (Nat.le_of_ble_eq_true rfl) dX1_readPart_50) (c_X1_readThrower l k _ _ _ _ b p n tx B hR hb hB hw hp hn hl ht) (by omega) (by decide) ?_
        rintro _ F_1 A_1 _ _ ⟨rfl, hB1, hf1, hx1, hy1, rfl, rfl⟩
        exact wp_iret hC rfl rfl dX1_readPart_53 (pI_ok (by rw [show readQP tx n B p = readTP tx n B p from by unfold readQP; simp [*]]; exact ⟨rfl, hB1, hf1, hx1, hy1, rfl, rfl⟩))
      · refine wp_lookup (off := 56) 61 dX1_readPart_5 (by decide) ((lv_osw h_72 rfl).trans ((lv_osw h_76 rfl).trans ((lv_osw h_84 rfl).trans (rfl)))) (by decide) ?_
        refine wp_iload_n dX1_readPart_61 rfl 2 rfl ?_
        exact wp_iret hC rfl rfl dX1_readPart_62 (pI_ok (by rw [show readQP tx n B p = (B, nI p) from by unfold readQP; simp [*]]; exact ⟨rfl, hB, frB.refl b F A, rfl, rfl, rfl, rfl⟩))

set_option maxRecDepth 100000 in
set_option maxHeartbeats 600000 in
theorem c_X1_readFrom (l : Launch) (k : Nat) (F A : mmF) (R : mmR) (G : mmG) (b : Nat) (n : Nat) (tx : Nat → Int32) (hR : mm_RL R) (hb : mm_K b = 1) (hn : n ≤ 60) (hl : F 1 1 = nI n) (ht : ∀ j, j < n → A 2 j = tx j) : Meets l hX1_readFrom (k + 4) 144 144 [.ref b, .ref 1] F A R G (pI (fun v F1 A1 R1 G1 => v = (readP tx n).2 ∧ frB b F A F1 A1 ∧ ((readP tx n).2 = -9 → isB F1 A1 b (readP tx n).1 ∧ F1 b 12 = figP tx n 1 0 2 ∧ F1 b 13 = figP tx n 2 0 9) ∧ R = R1 ∧ G = G1)) := by
  refine mm_start rfl (Nat.le_of_ble_eq_true rfl) (fun X hC => ?_)
  show WP hX1_readFrom X 144 0 [(0, .ref b), (1, .ref 1)] [] F A R G
  have hb1 : 1 ≠ b := by rcases bo_f hb with rfl | rfl <;> decide
  have hb2 : 103 ≤ b := by rcases bo_f hb with rfl | rfl <;> decide
  have hf := frB.refl b F A
  have hl0 := hl
  refine wp_aload_n dX1_readFrom_0 rfl 0 rfl ?_
  refine wp_iconst (v := 0) dX1_readFrom_1 (by decide) ?_
  refine wp_putI fX1_39 fn_1_9 rfl (hb) (bo_l0 hb) dX1_readFrom_2 ?_
  refine wp_aload_n dX1_readFrom_5 rfl 0 rfl ?_
  refine wp_iconst (v := 0) dX1_readFrom_6 (by decide) ?_
  refine wp_putI fX1_43 fn_1_10 rfl (hb) (bo_l0 hb) dX1_readFrom_7 ?_
  refine wp_aload_n dX1_readFrom_10 rfl 0 rfl ?_
  refine wp_iconst (v := 0) dX1_readFrom_11 (by decide) ?_
  refine wp_putI fX1_46 fn_1_11 rfl (hb) (bo_l0 hb) dX1_readFrom_12 ?_
  obtain ⟨F_1, hF_1⟩ : ∃ z, z = u2 (u2 (u2 F b 9 0) b 10 0) b 11 0 := ⟨_, rfl⟩
  rw [← hF_1]
  have hg_1 : frB b F A F_1 A := by rw [hF_1]; exact ⟨fun r hr => by simp [u2, va_up, hr], fun _ _ => rfl⟩
  have hf := hf.trans hg_1
  have hl : F_1 1 1 = nI n := by rw [hg_1.1 1 hb1]; exact hl
  have hB : isB F_1 A b noB := by rw [hF_1]; exact ⟨⟨by simp [u2, va_up, noB, nI_0], by simp [u2, va_up, noB, nI_0], by simp [u2, va_up, noB, nI_0]⟩, fun h hh => absurd hh (Nat.not_lt_zero _), fun h hh => absurd hh (Nat.not_lt_zero _), fun h hh => absurd hh (Nat.not_lt_zero _)⟩
  refine wp_aload_n dX1_readFrom_15 rfl 1 rfl ?_
  refine wp_iconst (v := 0) dX1_readFrom_16 (by decide) ?_
  refine wp_callP (e := letP tx n 0) (mm_siteV (av := [.int 0]) hC lX1_55 (rfl) (by decide) ⟨_, rfl, rfl⟩ rfl rfl (Nat.le_of_ble_eq_true rfl) dX1_readFrom_17) (c_X8_letterAt l (k + 3) _ _ _ _ 0 n tx hR (by omega) hn hl ht) (by omega) (by decide) ?_
  refine wp_bipush (v := 83) dX1_readFrom_20 (by decide) ?_
  refine wp_icmp_eq 27 dX1_readFrom_22 (by decide) (fun c1 => ?_) (fun c1 => ?_)
  · refine wp_aload_n dX1_readFrom_27 rfl 0 rfl ?_
    refine wp_aload_n dX1_readFrom_28 rfl 1 rfl ?_
    refine wp_iconst (v := 1) dX1_readFrom_29 (by decide) ?_
    refine wp_iconst (v := 0) dX1_readFrom_30 (by decide) ?_
    refine wp_iconst (v := 2) dX1_readFrom_31 (by decide) ?_
    refine wp_callP (mm_siteV (av := [.int 1, .int 0, .int 2]) hC lX1_61 (rfl) (by decide) ⟨_, rfl, rfl⟩ rfl rfl (Nat.le_of_ble_eq_true rfl) dX1_readFrom_32) (c_X8_figureAt l (k + 2) _ _ _ _ 1 n _ _ tx hR (by omega) hn hl ht) (by omega) (by decide) ?_
    refine wp_putI fX1_49 fn_1_12 rfl (hb) (bo_l0 hb) dX1_readFrom_35 ?_
    obtain ⟨F_2, hF_2⟩ : ∃ z, z = u2 F_1 b 12 (figP tx n 1 0 2) := ⟨_, rfl⟩
    rw [← hF_2]
    have hg_2 : frB b F_1 A F_2 A := by rw [hF_2]; exact ⟨fun r hr => by simp [u2, va_up, hr], fun _ _ => rfl⟩
    have hf := hf.trans hg_2
    have hl : F_2 1 1 = nI n := by rw [hg_2.1 1 hb1]; exact hl
    have hB : isB F_2 A b noB := by rw [hF_2]; exact ⟨⟨by simp [u2, va_up, hB.1.1], by simp [u2, va_up, hB.1.2.1], by simp [u2, va_up, hB.1.2.2]⟩, hB.2⟩
    have hW : F_2 b 12 = figP tx n 1 0 2 := by rw [hF_2]; simp [u2, va_up]
    refine wp_aload_n dX1_readFrom_38 rfl 0 rfl ?_
    refine wp_getI fX1_49 rfl (hb) (bo_l0 hb) dX1_readFrom_39 ?_
    refine wp_top (x' := figP tx n 1 0 2) (hW) ?_
    refine wp_bipush (v := (-9)) dX1_readFrom_42 (by decide) ?_
    refine wp_icmp_ne 49 dX1_readFrom_44 (by decide) (fun c2 => ?_) (fun c2 => ?_)
    · refine wp_aload_n dX1_readFrom_49 rfl 0 rfl ?_
      refine wp_aload_n dX1_readFrom_50 rfl 1 rfl ?_
      refine wp_iconst (v := 2) dX1_readFrom_51 (by decide) ?_
      refine wp_iconst (v := 0) dX1_readFrom_52 (by decide) ?_
      refine wp_bipush (v := 9) dX1_readFrom_53 (by decide) ?_
      refine wp_callP (mm_siteV (av := [.int 2, .int 0, .int 9]) hC lX1_61 (rfl) (by decide) ⟨_, rfl, rfl⟩ rfl rfl (Nat.le_of_ble_eq_true rfl) dX1_readFrom_55) (c_X8_figureAt l (k + 2) _ _ _ _ 2 n _ _ tx hR (by omega) hn hl ht) (by omega) (by decide) ?_
      refine wp_putI fX1_52 fn_1_13 rfl (hb) (bo_l0 hb) dX1_readFrom_58 ?_
      obtain ⟨F_3, hF_3⟩ : ∃ z, z = u2 F_2 b 13 (figP tx n 2 0 9) := ⟨_, rfl⟩
      rw [← hF_3]
      have hg_3 : frB b F_2 A F_3 A := by rw [hF_3]; exact ⟨fun r hr => by simp [u2, va_up, hr], fun _ _ => rfl⟩
      have hf := hf.trans hg_3
      have hl : F_3 1 1 = nI n := by rw [hg_3.1 1 hb1]; exact hl
      have hB : isB F_3 A b noB := by rw [hF_3]; exact ⟨⟨by simp [u2, va_up, hB.1.1], by simp [u2, va_up, hB.1.2.1], by simp [u2, va_up, hB.1.2.2]⟩, hB.2⟩
      have hW : F_3 b 12 = figP tx n 1 0 2 := by rw [hF_3]; simp [u2, va_up, hW]
      have hV : F_3 b 13 = figP tx n 2 0 9 := by rw [hF_3]; simp [u2, va_up]
      refine wp_aload_n dX1_readFrom_61 rfl 0 rfl ?_
      refine wp_getI fX1_52 rfl (hb) (bo_l0 hb) dX1_readFrom_62 ?_
      refine wp_top (x' := figP tx n 2 0 9) (hV) ?_
      refine wp_bipush (v := (-9)) dX1_readFrom_65 (by decide) ?_
      refine wp_icmp_ne 72 dX1_readFrom_67 (by decide) (fun c3 => ?_) (fun c3 => ?_)
      · refine wp_iconst (v := 3) dX1_readFrom_72 (by decide) ?_
        refine wp_istore_n [1, 2, 0] (by decide) rfl rfl rfl dX1_readFrom_73 rfl ?_
        have hRd : readP tx n = partsP tx n 60 3 noB := by unfold readP; simp [*]
        have lp : ∀ (nn : Nat) (f p : Nat) (B : BV) (F1 A1 : mmF), (n < p + f ∧ p ≤ 64) → (partsP tx n 60 3 noB = partsP tx n f p B) → (B.1.1 ≤ 5 ∧ B.1.2.1 ≤ 4 ∧ B.1.2.2 ≤ 4) → (isB F1 A1 b B) → (frB b F A F1 A1) → (F1 b 12 = figP tx n 1 0 2) → (F1 b 13 = figP tx n 2 0 9) → n - p < nn → WP hX1_readFrom X 144 74 [(0, .ref b), (1, .ref 1), (2, .int (nI p))] [] F1 A1 R G := by
          intro nn
          induction nn with
          | zero => intro f p B F1 A1 _ _ _ _ _ _ _ hm; exact absurd hm (Nat.not_lt_zero _)
          | succ nn ih_lp =>
            intro f p B F1 A1 hq hv hw hB hf hW hV hm_lp
            have hl1 : F1 1 1 = nI n := by rw [hf.1 1 hb1]; exact hl0
            have ht1 : ∀ j, j < n → A1 2 j = tx j := by rw [hf.2 2 (by omega)]; exact ht
            refine wp_iload_n dX1_readFrom_74 rfl 2 rfl ?_
            refine wp_aload_n dX1_readFrom_75 rfl 1 rfl ?_
            refine wp_getI fX1_65 rfl (rfl) (by decide) dX1_readFrom_76 ?_
            refine wp_top (x' := nI n) (hl1) ?_
            refine wp_icmp_ge 103 dX1_readFrom_79 (by decide) (fun c4 => ?_) (fun c4 => ?_)
            · replace c4 := (ix_le (a := n) (b := p) (rfl) (rfl) (by omega) (by omega)).mp c4
              refine wp_bipush (v := (-9)) dX1_readFrom_103 (by decide) ?_
              exact wp_iret hC rfl rfl dX1_readFrom_105 (pI_ok (by rw [show readP tx n = (B, -9) from by rw [hRd, hv]; cases f with | zero => rfl | succ f => rw [partsP, if_neg (by omega)]]; exact ⟨rfl, hf, fun _ => ⟨hB, hW, hV⟩, rfl, rfl⟩))
            · replace c4 := mt (ix_le (a := n) (b := p) (rfl) (rfl) (by omega) (by omega)).mpr c4
              refine wp_aload_n dX1_readFrom_82 rfl 0 rfl ?_
              refine wp_aload_n dX1_readFrom_83 rfl 1 rfl ?_
              refine wp_iload_n dX1_readFrom_84 rfl 2 rfl ?_
              refine wp_callI (mm_siteV (av := [.ref 1, .int (nI p)]) hC lX1_68 (hb) (bo_l0 hb) ⟨_, rfl, rfl⟩ rfl rfl (Nat.le_of_ble_eq_true rfl) dX1_readFrom_85) (c_X1_readPart l k _ _ _ _ b p n tx B hR hb hB hw (by omega) hn hl1 ht1) (by omega) (by decide) ?_
              rintro _ F_9 A_9 _ _ ⟨rfl, hB9, hg9, hx9, hy9, rfl, rfl⟩
              refine wp_istore_n [1, 2, 3, 0] (by decide) rfl rfl rfl dX1_readFrom_88 rfl ?_
              refine wp_iload_n dX1_readFrom_89 rfl 3 rfl ?_
              refine wp_bipush (v := (-9)) dX1_readFrom_90 (by decide) ?_
              refine wp_icmp_eq 97 dX1_readFrom_92 (by decide) (fun c5 => ?_) (fun c5 => ?_)
              · refine wp_iinc (v := nI (p + 4)) 2 rfl (by exact nI_add p 4) [1, 2, 0, 4] (by decide) rfl rfl rfl dX1_readFrom_97 ?_
                refine wp_goto 74 dX1_readFrom_100 (by decide) ?_
                refine wp_lv [0, 1, 2] rfl ?_
                exact ih_lp (f - 1) (p + 4) (readQP tx n B p).1 F_9 A_9 (by omega) (by rw [hv, show f = f - 1 + 1 by omega, partsP, if_pos (by omega), if_pos c5, Nat.add_sub_cancel]) (readQP_le tx n B p hw) hB9 (hf.trans hg9) (hx9.trans hW) (hy9.trans hV) (by omega)
              · refine wp_iload_n dX1_readFrom_95 rfl 3 rfl ?_
                exact wp_iret hC rfl rfl dX1_readFrom_96 (pI_ok (by rw [show readP tx n = readQP tx n B p from by rw [hRd, hv, show f = f - 1 + 1 by omega, partsP, if_pos (by omega), if_neg c5]]; exact ⟨rfl, hf.trans hg9, fun h => absurd h c5, rfl, rfl⟩))
        exact lp (n + 1) 60 3 noB F_3 A (by omega) rfl (by decide) hB hf hW hV (by omega)
      · refine wp_iconst (v := 2) dX1_readFrom_70 (by decide) ?_
        exact wp_iret hC rfl rfl dX1_readFrom_71 (pI_ok (by rw [show readP tx n = (noB, 2) from by unfold readP; simp [*]]; exact ⟨rfl, hf, fun h => absurd h (by decide), rfl, rfl⟩))
    · refine wp_iconst (v := 1) dX1_readFrom_47 (by decide) ?_
      exact wp_iret hC rfl rfl dX1_readFrom_48 (pI_ok (by rw [show readP tx n = (noB, 1) from by unfold readP; simp [*]]; exact ⟨rfl, hf, fun h => absurd h (by decide), rfl, rfl⟩))
  · refine wp_iconst (v := 0) dX1_readFrom_25 (by decide) ?_
    exact wp_iret hC rfl rfl dX1_readFrom_26 (pI_ok (by rw [show readP tx n = (noB, 0) from by unfold readP; simp [*]]; exact ⟨rfl, hf, fun h => absurd h (by decide), rfl, rfl⟩))

/-- the nails at first: of the NAILED ones -/
def nailP (B : BV) : Int32 := (List.range' 0 5).foldl (fun a h => if h < B.1.1 then (if B.2 3 h = 1 then a ||| sh h else a) else a) 0
def newS (B : BV) (wd pd : Int32) : SV := (fun _ => 0, fun _ => 0, fun j => if j = 4 then nailP B else if j = 5 then wd else if j = 6 then pd else 0)
set_option maxRecDepth 100000 in
set_option maxHeartbeats 600000 in
theorem c_X7_makeAnew (l : Launch) (k : Nat) (F A : mmF) (R : mmR) (G : mmG) (b : Nat) (B : BV) (wd pd : Int32) (hR : mm_RL R) (hb : mm_K b = 1) (hB : isB F A b B) (hw : wfB B) (hW : F b 12 = wd) (hV : F b 13 = pd) : Meets l hX7_makeAnew k 144 144 [.ref 3, .ref b] F A R G (pV (fun F1 A1 R1 G1 => isS F1 A1 3 (newS B wd pd) ∧ fr 3 F A F1 A1 ∧ R = R1 ∧ G = G1)) := by
  refine mm_start rfl (Nat.le_of_ble_eq_true rfl) (fun X hC => ?_)
  show WP hX7_makeAnew X 144 0 [(0, .ref 3), (1, .ref b)] [] F A R G
  have hw1 := hw.1
  have hb2 : 103 ≤ b := by rcases bo_f hb with rfl | rfl <;> decide
  have hb3 : ¬ b = 3 := by omega
  have hb4 : ∀ j, ¬ b + j = 4 := fun j => by omega
  have hb5 : ∀ j, ¬ b + j = 5 := fun j => by omega
  refine wp_aload_n dX7_makeAnew_0 rfl 0 rfl ?_
  refine wp_iconst (v := 0) dX7_makeAnew_1 (by decide) ?_
  refine wp_putI fX7_18 fn_7_2 rfl (rfl) (by decide) dX7_makeAnew_2 ?_
  refine wp_aload_n dX7_makeAnew_5 rfl 0 rfl ?_
  refine wp_iconst (v := 0) dX7_makeAnew_6 (by decide) ?_
  refine wp_putI fX7_22 fn_7_3 rfl (rfl) (by decide) dX7_makeAnew_7 ?_
  refine wp_aload_n dX7_makeAnew_10 rfl 0 rfl ?_
  refine wp_iconst (v := 0) dX7_makeAnew_11 (by decide) ?_
  refine wp_putI fX7_25 fn_7_4 rfl (rfl) (by decide) dX7_makeAnew_12 ?_
  refine wp_aload_n dX7_makeAnew_15 rfl 0 rfl ?_
  refine wp_aload_n dX7_makeAnew_16 rfl 1 rfl ?_
  refine wp_getI fX7_34 rfl (hb) (bo_l0 hb) dX7_makeAnew_17 ?_
  refine wp_top (x' := wd) (by simp [u2, va_up, hb3, hW]) ?_
  refine wp_putI fX7_28 fn_7_5 rfl (rfl) (by decide) dX7_makeAnew_20 ?_
  refine wp_aload_n dX7_makeAnew_23 rfl 0 rfl ?_
  refine wp_aload_n dX7_makeAnew_24 rfl 1 rfl ?_
  refine wp_getI fX7_39 rfl (hb) (bo_l0 hb) dX7_makeAnew_25 ?_
  refine wp_top (x' := pd) (by simp [u2, va_up, hb3, hV]) ?_
  refine wp_putI fX7_31 fn_7_6 rfl (rfl) (by decide) dX7_makeAnew_28 ?_
  obtain ⟨F_1, hF_1⟩ : ∃ z, z = u2 (u2 (u2 (u2 (u2 F 3 2 0) 3 3 0) 3 4 0) 3 5 wd) 3 6 pd := ⟨_, rfl⟩
  rw [← hF_1]
  have hg_1 : fr 3 F A F_1 A := by rw [hF_1]; exact ⟨fun r hr => by simp [u2, va_up, hr], fun _ _ _ => rfl⟩
  have h0 : F_1 3 2 = 0 ∧ F_1 3 3 = 0 ∧ F_1 3 4 = 0 ∧ F_1 3 5 = wd ∧ F_1 3 6 = pd := by rw [hF_1]; simp [u2, va_up, hW, hV]
  refine wp_iconst (v := 0) dX7_makeAnew_31 (by decide) ?_
  refine wp_istore_n [1, 2, 0] (by decide) rfl rfl rfl dX7_makeAnew_32 rfl ?_
  have lp : ∀ (nn : Nat) (i : Nat) (q : Int32) (F1 A1 : mmF), (i ≤ 5) → (nailP B = (List.range' i (5 - i)).foldl (fun a h => if h < B.1.1 then (if B.2 3 h = 1 then a ||| sh h else a) else a) q) → (F1 3 4 = q) → (F1 3 2 = 0 ∧ F1 3 3 = 0 ∧ F1 3 5 = wd ∧ F1 3 6 = pd) → (∀ j, j < i → A1 4 j = 0 ∧ A1 5 j = 0) → (fr 3 F A F1 A1) → 5 - i < nn → WP hX7_makeAnew X 144 33 [(0, .ref 3), (1, .ref b), (2, .int (nI i))] [] F1 A1 R G := by
    intro nn
    induction nn with
    | zero => intro i q F1 A1 _ _ _ _ _ _ hm; exact absurd hm (Nat.not_lt_zero _)
    | succ nn ih_lp =>
      intro i q F1 A1 hi hv hq h0 hz hf hm_lp
      have hB1 := hf.b (a := 3) rfl hb hB
      refine wp_iload_n dX7_makeAnew_33 rfl 2 rfl ?_
      refine wp_iconst (v := 5) dX7_makeAnew_34 (by decide) ?_
      refine wp_icmp_ge 88 dX7_makeAnew_35 (by decide) (fun c1 => ?_) (fun c1 => ?_)
      · replace c1 := (ix_le (a := 5) (b := i) (rfl) (rfl) (by omega) (by omega)).mp c1
        exact wp_vret hC rfl dX7_makeAnew_88 (pV_ok ⟨⟨fun j hj => (hz j (by omega)).1, fun j hj => (hz j (by omega)).2, h0.1, h0.2.1, by rw [hq]; simp only [newS, if_true]; rw [hv, show 5 - i = 0 by omega]; rfl, h0.2.2.1, h0.2.2.2⟩, hf, rfl, rfl⟩)
      · replace c1 := mt (ix_le (a := 5) (b := i) (rfl) (rfl) (by omega) (by omega)).mpr c1
        refine wp_aload_n dX7_makeAnew_38 rfl 0 rfl ?_
        refine wp_getO (q := 4) fX7_9 hR rfl (rfl) (by decide) (by decide) rfl dX7_makeAnew_39 ?_
        refine wp_iload_n dX7_makeAnew_42 rfl 2 rfl ?_
        refine wp_iconst (v := 0) dX7_makeAnew_43 (by decide) ?_
        refine wp_iast i (rfl) (rfl) (by decide) ((show i < 5 from by omega)) dX7_makeAnew_44 ?_
        refine wp_aload_n dX7_makeAnew_45 rfl 0 rfl ?_
        refine wp_getO (q := 5) fX7_15 hR rfl (rfl) (by decide) (by decide) rfl dX7_makeAnew_46 ?_
        refine wp_iload_n dX7_makeAnew_49 rfl 2 rfl ?_
        refine wp_iconst (v := 0) dX7_makeAnew_50 (by decide) ?_
        refine wp_iast i (rfl) (rfl) (by decide) ((show i < 5 from by omega)) dX7_makeAnew_51 ?_
        have hB2 : isB F1 (u2 (u2 A1 4 i 0) 5 i 0) b B := ⟨hB1.1, by simpa [u2, va_up, hb4, hb5, show ¬ b = 0 by omega] using hB1.2⟩
        refine wp_iload_n dX7_makeAnew_52 rfl 2 rfl ?_
        refine wp_aload_n dX7_makeAnew_53 rfl 1 rfl ?_
        refine wp_getI fX7_42 rfl (hb) (bo_l0 hb) dX7_makeAnew_54 ?_
        refine wp_top (x' := nI B.1.1) (hB1.1.1) ?_
        refine wp_icmp_ge 82 dX7_makeAnew_57 (by decide) (fun c2 => ?_) (fun c2 => ?_)
        · replace c2 := (ix_le (a := B.1.1) (b := i) (rfl) (rfl) (by omega) (by omega)).mp c2
          have c2 : ¬ i < B.1.1 := by omega
          refine wp_iinc (v := nI (i + 1)) 2 rfl (by exact nI_1 i) [1, 2, 0] (by decide) rfl rfl rfl dX7_makeAnew_82 ?_
          refine wp_goto 33 dX7_makeAnew_85 (by decide) ?_
          exact ih_lp (i + 1) q _ _ (by omega) (by rw [hv, show 5 - i = 5 - (i + 1) + 1 by omega, List.range'_succ, List.foldl_cons]; simp only [*, if_true, if_false, sh]) hq (by simp [u2, va_up, h0]) (fun j hj => by by_cases e : j = i <;> simp [u2, va_up, e]; exact hz j (by omega)) (hf.trans ⟨fun r hr => by simp [u2, va_up, hr], fun r hr hr2 => by simp [u2, va_up, show ¬ r = 4 from hr, show ¬ r = 5 from hr2]⟩) (by omega)
        · replace c2 := mt (ix_le (a := B.1.1) (b := i) (rfl) (rfl) (by omega) (by omega)).mpr c2
          have c2 : i < B.1.1 := by omega
          refine wp_aload_n dX7_makeAnew_60 rfl 1 rfl ?_
          refine wp_getO (q := b + 3) fX7_45 hR rfl (hb) (bo_l0 hb) (by decide) rfl dX7_makeAnew_61 ?_
          refine wp_iload_n dX7_makeAnew_64 rfl 2 rfl ?_
          refine wp_iald i (rfl) (bo_k3 hb) (bo_l3 hb) (bo_i3 hb (by omega)) dX7_makeAnew_65 ?_
          refine wp_top (x' := B.2 3 i) ((hB2.2.1 i (by omega)).2.2) ?_
          refine wp_iconst (v := 1) dX7_makeAnew_66 (by decide) ?_
          refine wp_icmp_ne 82 dX7_makeAnew_67 (by decide) (fun c3 => ?_) (fun c3 => ?_)
          · refine wp_iinc (v := nI (i + 1)) 2 rfl (by exact nI_1 i) [1, 2, 0] (by decide) rfl rfl rfl dX7_makeAnew_82 ?_
            refine wp_goto 33 dX7_makeAnew_85 (by decide) ?_
            exact ih_lp (i + 1) q _ _ (by omega) (by rw [hv, show 5 - i = 5 - (i + 1) + 1 by omega, List.range'_succ, List.foldl_cons]; simp only [*, if_true, if_false, sh]) hq (by simp [u2, va_up, h0]) (fun j hj => by by_cases e : j = i <;> simp [u2, va_up, e]; exact hz j (by omega)) (hf.trans ⟨fun r hr => by simp [u2, va_up, hr], fun r hr hr2 => by simp [u2, va_up, show ¬ r = 4 from hr, show ¬ r = 5 from hr2]⟩) (by omega)
          · refine wp_aload_n dX7_makeAnew_70 rfl 0 rfl ?_
            refine wp_dup dX7_makeAnew_71 rfl ?_
            refine wp_getI fX7_25 rfl (rfl) (by decide) dX7_makeAnew_72 ?_
            refine wp_top (x' := q) (hq) ?_
            refine wp_iconst (v := 1) dX7_makeAnew_75 (by decide) ?_
            refine wp_iload_n dX7_makeAnew_76 rfl 2 rfl ?_
            refine wp_ishl dX7_makeAnew_77 ?_
            refine wp_ior dX7_makeAnew_78 ?_
            refine wp_putI fX7_25 fn_7_4 rfl (rfl) (by decide) dX7_makeAnew_79 ?_
            refine wp_iinc (v := nI (i + 1)) 2 rfl (by exact nI_1 i) [1, 2, 0] (by decide) rfl rfl rfl dX7_makeAnew_82 ?_
            refine wp_goto 33 dX7_makeAnew_85 (by decide) ?_
            exact ih_lp (i + 1) (q ||| 1 <<< (nI i &&& 31)) _ _ (by omega) (by rw [hv, show 5 - i = 5 - (i + 1) + 1 by omega, List.range'_succ, List.foldl_cons]; simp only [*, if_true, if_false, sh]) (by simp [u2, va_up]) (by simp [u2, va_up, h0]) (fun j hj => by by_cases e : j = i <;> simp [u2, va_up, e]; exact hz j (by omega)) (hf.trans ⟨fun r hr => by simp [u2, va_up, hr], fun r hr hr2 => by simp [u2, va_up, show ¬ r = 4 from hr, show ¬ r = 5 from hr2]⟩) (by omega)
  exact lp (5 + 1) 0 0 F_1 A (by decide) rfl h0.2.2.1 ⟨h0.1, h0.2.1, h0.2.2.2⟩ (fun _ h => absurd h (Nat.not_lt_zero _)) hg_1 (by omega)

