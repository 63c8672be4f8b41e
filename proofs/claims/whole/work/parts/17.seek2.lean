set_option maxRecDepth 100000 in
set_option maxHeartbeats 600000 in
theorem c_X4_downBehind (l : Launch) (k : Nat) (F A : mmF) (R : mmR) (G : mmG) (b : Nat) (t : Nat) (pl lk : Int32) (S : SV) (B : BV) (hR : mm_RL R) (hb : mm_K b = 1) (hS : isS F A 3 S) (hB : isB F A b B) (hw : wfB B) (ht : t < B.1.2.1) : Meets l hX4_downBehind (k + 12) 144 144 [.ref 63, .ref b, .ref 3, .int (nI t), .int pl, .int lk] F A R G (pI (fun v F1 A1 R1 G1 => v = (throwP B S t pl lk).1.2.2 2 ∧ frI 65 79 F A F1 A1 ∧ R = R1 ∧ G = G1)) := by
  refine mm_start rfl (Nat.le_of_ble_eq_true rfl) (fun X hC => ?_)
  show WP hX4_downBehind X 144 0 [(0, .ref 63), (1, .ref b), (2, .ref 3), (3, .int (nI t)), (4, .int pl), (5, .int lk)] [] F A R G
  have hw1 := hw.1
  have hb2 : 103 ≤ b := by rcases bo_f hb with rfl | rfl <;> decide
  refine wp_aload_n dX4_downBehind_0 rfl 0 rfl ?_
  refine wp_getO (q := 64) fX4_13 hR rfl (rfl) (by decide) (by decide) rfl dX4_downBehind_1 ?_
  refine wp_iconst (v := 0) dX4_downBehind_4 (by decide) ?_
  refine wp_aaldO (q := 65) hR 0 (rfl) (rfl) (by decide) ((show 0 < 5 from by decide)) (rfl) dX4_downBehind_5 ?_
  refine wp_aload_n dX4_downBehind_6 rfl 2 rfl ?_
  refine wp_callV (mm_siteV (av := [.ref 3]) hC lX4_26 (rfl) (by decide) ⟨_, rfl, rfl⟩ rfl rfl (Nat.le_of_ble_eq_true rfl) dX4_downBehind_7) (c_X7_becomeAs l (k + 9) _ _ _ _ _ _ S hR (rfl) (rfl) (by decide) hS) (by omega) (by decide) (by decide) ?_
  rintro F3 A3 _ _ ⟨hS3, hg3, rfl, rfl⟩
  have hB3 := hg3.b (rfl) hb hB
  refine wp_aload_n dX4_downBehind_10 rfl 0 rfl ?_
  refine wp_getO (q := 64) fX4_13 hR rfl (rfl) (by decide) (by decide) rfl dX4_downBehind_11 ?_
  refine wp_iconst (v := 0) dX4_downBehind_14 (by decide) ?_
  refine wp_aaldO (q := 65) hR 0 (rfl) (rfl) (by decide) ((show 0 < 5 from by decide)) (rfl) dX4_downBehind_15 ?_
  refine wp_aload_n dX4_downBehind_16 rfl 1 rfl ?_
  refine wp_iload_n dX4_downBehind_17 rfl 3 rfl ?_
  refine wp_iload dX4_downBehind_18 4 rfl ?_
  refine wp_iload dX4_downBehind_20 5 rfl ?_
  refine wp_callI (mm_siteV (av := [.ref b, .int (nI t), .int pl, .int lk]) hC lX4_32 (rfl) (by decide) ⟨_, rfl, rfl⟩ rfl rfl (Nat.le_of_ble_eq_true rfl) dX4_downBehind_22) (c_X7_throwBy l k _ _ _ _ _ _ t pl lk S B hR rfl hb hS3 hB3 hw ht) (by omega) (by decide) ?_
  rintro _ F4 A4 _ _ ⟨rfl, hS4, hg4, rfl, rfl⟩
  have hB4 := hg4.b (rfl) hb hB3
  refine wp_pop dX4_downBehind_25 rfl ?_
  refine wp_aload_n dX4_downBehind_26 rfl 0 rfl ?_
  refine wp_getO (q := 64) fX4_13 hR rfl (rfl) (by decide) (by decide) rfl dX4_downBehind_27 ?_
  refine wp_iconst (v := 0) dX4_downBehind_30 (by decide) ?_
  refine wp_aaldO (q := 65) hR 0 (rfl) (rfl) (by decide) ((show 0 < 5 from by decide)) (rfl) dX4_downBehind_31 ?_
  refine wp_getI fX4_36 rfl (rfl) (by decide) dX4_downBehind_32 ?_
  refine wp_top (x' := (throwP B S t pl lk).1.2.2 2) (hS4.2.2.1) ?_
  exact wp_iret hC rfl rfl dX4_downBehind_35 (pI_ok ⟨rfl, (hg3.I (a := 65) (by decide) (by decide)).trans (hg4.I (by decide) (by decide)), rfl, rfl⟩)

set_option maxRecDepth 100000 in
set_option maxHeartbeats 600000 in
theorem c_X4_firstRow (l : Launch) (k : Nat) (F A : mmF) (R : mmR) (G : mmG) (b : Nat) (hk many : Nat) (S : SV) (B : BV) (hR : mm_RL R) (hb : mm_K b = 1) (hS : isS F A 3 S) (hB : isB F A b B) (hw : wfB B) (hk5 : hk < B.1.1) (hm : many ≤ 3) : Meets l hX4_firstRow (k + 15) 144 144 [.ref 63, .ref b, .ref 3, .int (nI hk), .int (nI many)] F A R G (pI (fun v F1 A1 R1 G1 => v = rowP B hk many S ∧ frI 65 79 F A F1 A1 ∧ R = R1 ∧ G = G1)) := by
  refine mm_start rfl (Nat.le_of_ble_eq_true rfl) (fun X hC => ?_)
  show WP hX4_firstRow X 144 0 [(0, .ref 63), (1, .ref b), (2, .ref 3), (3, .int (nI hk)), (4, .int (nI many))] [] F A R G
  have hw1 := hw.1
  have hb2 : 103 ≤ b := by rcases bo_f hb with rfl | rfl <;> decide
  refine wp_aload_n dX4_firstRow_0 rfl 0 rfl ?_
  refine wp_getO (q := 64) fX4_13 hR rfl (rfl) (by decide) (by decide) rfl dX4_firstRow_1 ?_
  refine wp_iconst (v := 0) dX4_firstRow_4 (by decide) ?_
  refine wp_aaldO (q := 65) hR 0 (rfl) (rfl) (by decide) ((show 0 < 5 from by decide)) (rfl) dX4_firstRow_5 ?_
  refine wp_aload_n dX4_firstRow_6 rfl 2 rfl ?_
  refine wp_callV (mm_siteV (av := [.ref 3]) hC lX4_26 (rfl) (by decide) ⟨_, rfl, rfl⟩ rfl rfl (Nat.le_of_ble_eq_true rfl) dX4_firstRow_7) (c_X7_becomeAs l (k + 12) _ _ _ _ _ _ S hR (rfl) (rfl) (by decide) hS) (by omega) (by decide) (by decide) ?_
  rintro F3 A3 _ _ ⟨hS3, hg3, rfl, rfl⟩
  have hB3 := hg3.b (rfl) hb hB
  refine wp_aload_n dX4_firstRow_10 rfl 0 rfl ?_
  refine wp_getO (q := 64) fX4_13 hR rfl (rfl) (by decide) (by decide) rfl dX4_firstRow_11 ?_
  refine wp_aload_n dX4_firstRow_14 rfl 1 rfl ?_
  refine wp_iload_n dX4_firstRow_15 rfl 3 rfl ?_
  refine wp_iconst (v := 0) dX4_firstRow_16 (by decide) ?_
  refine wp_iload dX4_firstRow_17 4 rfl ?_
  refine wp_callI (mm_siteS (av := [.ref 64, .ref b, .int (nI hk), .int 0, .int (nI many)]) hC lX4_39 rfl rfl (Nat.le_of_ble_eq_true rfl) dX4_firstRow_19) (c_X4_rowFrom l (k + (3 - many)) _ _ b hk B hR hb hw hk5 many _ _ S 0 many (by omega) hm hS3 hB3) (by omega) (by decide) ?_
  rintro _ F4 A4 _ _ ⟨rfl, hg4, rfl, rfl⟩
  exact wp_iret hC rfl rfl dX4_firstRow_22 (pI_ok ⟨rfl, (hg3.I (a := 65) (by decide) (by decide)).trans (hg4.wide (by omega) (by omega)), rfl, rfl⟩)

set_option maxRecDepth 100000 in
set_option maxHeartbeats 600000 in
theorem c_X4_weigh (l : Launch) (k : Nat) (F A : mmF) (R : mmR) (G : mmG) (x fg : Int32) : Meets l hX4_weigh k 144 144 [.ref 63, .int x, .int fg] F A R G (pV (fun F1 A1 R1 G1 => (F1 63 1, F1 63 2) = weighP x fg (F 63 1, F 63 2) ∧ (∀ r, r ≠ 63 → F1 r = F r) ∧ A1 = A ∧ R = R1 ∧ G = G1)) := by
  refine mm_start rfl (Nat.le_of_ble_eq_true rfl) (fun X hC => ?_)
  show WP hX4_weigh X 144 0 [(0, .ref 63), (1, .int x), (2, .int fg)] [] F A R G
  refine wp_iload_n dX4_weigh_0 rfl 1 rfl ?_
  refine wp_aload_n dX4_weigh_1 rfl 0 rfl ?_
  refine wp_getI fX4_19 rfl (rfl) (by decide) dX4_weigh_2 ?_
  refine wp_icmp_le 18 dX4_weigh_5 (by decide) (fun c1 => ?_) (fun c1 => ?_)
  · exact wp_vret hC rfl dX4_weigh_18 (pV_ok ⟨by unfold weighP; simp [u2, va_up, *], fun r hr => by simp [u2, va_up, hr], rfl, rfl, rfl⟩)
  · refine wp_aload_n dX4_weigh_8 rfl 0 rfl ?_
    refine wp_iload_n dX4_weigh_9 rfl 1 rfl ?_
    refine wp_putI fX4_19 fn_4_1 rfl (rfl) (by decide) dX4_weigh_10 ?_
    refine wp_aload_n dX4_weigh_13 rfl 0 rfl ?_
    refine wp_iload_n dX4_weigh_14 rfl 2 rfl ?_
    refine wp_putI fX4_23 fn_4_2 rfl (rfl) (by decide) dX4_weigh_15 ?_
    exact wp_vret hC rfl dX4_weigh_18 (pV_ok ⟨by unfold weighP; simp [u2, va_up, *], fun r hr => by simp [u2, va_up, hr], rfl, rfl, rfl⟩)

set_option maxRecDepth 100000 in
set_option maxHeartbeats 4000000 in
theorem c_X4_matchFrom (l : Launch) (k : Nat) (R : mmR) (G : mmG) (b : Nat) (am : Int32) (B : BV) (hR : mm_RL R) (hb : mm_K b = 1) (hw : wfB B) : ∀ (m : Nat) (F A : mmF) (S : SV) (t : Nat) (fg : Int32), t + m = B.1.2.1 → isS F A (65 + 3 * t) S → dn S → isB F A b B → Meets l hX4_matchFrom (k + m + 11) 144 144 [.ref 63, .ref b, .int am, .int (nI t), .int fg] F A R G (pV (fun F1 A1 R1 G1 => (F1 63 1, F1 63 2) = matchP B am m t S fg (F 63 1, F 63 2) ∧ frK (65 + 3 * (t + 1)) F A F1 A1 ∧ R = R1 ∧ G = G1)) := by
  intro m
  induction m with
  | zero =>
    intro F A S t fg ht hS hd hB
    refine mm_start rfl (Nat.le_of_ble_eq_true rfl) (fun X hC => ?_)
    show WP hX4_matchFrom X 144 0 [(0, .ref 63), (1, .ref b), (2, .int am), (3, .int (nI t)), (4, .int fg)] [] F A R G
    have hw1 := hw.1
    have hB0 := hB
    have hb2 : 103 ≤ b := by rcases bo_f hb with rfl | rfl <;> decide
    refine wp_aload_n dX4_matchFrom_0 rfl 0 rfl ?_
    refine wp_getO (q := 64) fX4_13 hR rfl (rfl) (by decide) (by decide) rfl dX4_matchFrom_1 ?_
    refine wp_iload_n dX4_matchFrom_4 rfl 3 rfl ?_
    obtain ⟨a, hae⟩ : ∃ a, a = 65 + 3 * t := ⟨_, rfl⟩
    have ha : mm_K a = 7 := by rw [hae]; exact sk_K (by omega)
    rw [← hae] at hS
    have hS0 := hS
    refine wp_aaldO (q := a) hR t (rfl) (rfl) (by decide) ((show t < 5 from by omega)) (hae.symm) dX4_matchFrom_5 ?_
    refine wp_astore [1, 2, 3, 4, 5, 0] (by decide) rfl rfl rfl dX4_matchFrom_6 ?_
    refine wp_iload_n dX4_matchFrom_8 rfl 3 rfl ?_
    refine wp_aload_n dX4_matchFrom_9 rfl 1 rfl ?_
    refine wp_getI fX4_47 rfl (hb) (bo_l0 hb) dX4_matchFrom_10 ?_
    refine wp_top (x' := nI B.1.2.1) (hB.1.2.1) ?_
    refine wp_icmp_ge 21 dX4_matchFrom_13 (by decide) (fun c1 => ?_) (fun c1 => ?_)
    · replace c1 := (ix_le (a := B.1.2.1) (b := t) (rfl) (rfl) (by omega) (by omega)).mp c1
      refine wp_aload_n dX4_matchFrom_21 rfl 0 rfl ?_
      refine wp_aload dX4_matchFrom_22 5 rfl ?_
      refine wp_callP (e := manyP (S.2.2 2)) (mm_siteV (av := []) hC lX4_71 (ha) (st_l0 ha) ⟨_, rfl, rfl⟩ rfl rfl (Nat.le_of_ble_eq_true rfl) dX4_matchFrom_24) (c_X7_howManyDown l (k + 9) _ _ _ _ _ _ S ha hS hd.choose_spec.1 hd.choose_spec.2) (by omega) (by decide) ?_
      refine wp_iload dX4_matchFrom_27 4 rfl ?_
      refine wp_callV (mm_siteV (av := [.int (manyP (S.2.2 2)), .int fg]) hC lX4_75 (rfl) (by decide) ⟨_, rfl, rfl⟩ rfl rfl (Nat.le_of_ble_eq_true rfl) dX4_matchFrom_29) (c_X4_weigh l (k + 10) _ _ _ _ _ _) (by omega) (by decide) (by decide) ?_
      rintro F1 _ _ _ ⟨hq, hr1, rfl, rfl, rfl⟩
      exact wp_vret hC rfl dX4_matchFrom_32 (pV_ok ⟨by rw [hq]; rfl, fun r hr => ⟨fun h => hr1 r h, rfl⟩, rfl, rfl⟩)
    · replace c1 := mt (ix_le (a := B.1.2.1) (b := t) (rfl) (rfl) (by omega) (by omega)).mpr c1
      exact absurd c1 (by omega)
  | succ m ih =>
    intro F A S t fg ht hS hd hB
    refine mm_start rfl (Nat.le_of_ble_eq_true rfl) (fun X hC => ?_)
    show WP hX4_matchFrom X 144 0 [(0, .ref 63), (1, .ref b), (2, .int am), (3, .int (nI t)), (4, .int fg)] [] F A R G
    have hw1 := hw.1
    have hB0 := hB
    have hb2 : 103 ≤ b := by rcases bo_f hb with rfl | rfl <;> decide
    refine wp_aload_n dX4_matchFrom_0 rfl 0 rfl ?_
    refine wp_getO (q := 64) fX4_13 hR rfl (rfl) (by decide) (by decide) rfl dX4_matchFrom_1 ?_
    refine wp_iload_n dX4_matchFrom_4 rfl 3 rfl ?_
    obtain ⟨a, hae⟩ : ∃ a, a = 65 + 3 * t := ⟨_, rfl⟩
    have ha : mm_K a = 7 := by rw [hae]; exact sk_K (by omega)
    rw [← hae] at hS
    have hS0 := hS
    refine wp_aaldO (q := a) hR t (rfl) (rfl) (by decide) ((show t < 5 from by omega)) (hae.symm) dX4_matchFrom_5 ?_
    refine wp_astore [1, 2, 3, 4, 5, 0] (by decide) rfl rfl rfl dX4_matchFrom_6 ?_
    refine wp_iload_n dX4_matchFrom_8 rfl 3 rfl ?_
    refine wp_aload_n dX4_matchFrom_9 rfl 1 rfl ?_
    refine wp_getI fX4_47 rfl (hb) (bo_l0 hb) dX4_matchFrom_10 ?_
    refine wp_top (x' := nI B.1.2.1) (hB.1.2.1) ?_
    refine wp_icmp_ge 21 dX4_matchFrom_13 (by decide) (fun c1 => ?_) (fun c1 => ?_)
    · replace c1 := (ix_le (a := B.1.2.1) (b := t) (rfl) (rfl) (by omega) (by omega)).mp c1
      exact absurd c1 (by omega)
    · replace c1 := mt (ix_le (a := B.1.2.1) (b := t) (rfl) (rfl) (by omega) (by omega)).mpr c1
      refine wp_iload_n dX4_matchFrom_16 rfl 3 rfl ?_
      refine wp_iconst (v := 4) dX4_matchFrom_17 (by decide) ?_
      refine wp_icmp_lt 33 dX4_matchFrom_18 (by decide) (fun c2 => ?_) (fun c2 => ?_)
      · replace c2 := (ix_lt (a := t) (b := 4) (rfl) (rfl) (by omega) (by omega)).mp c2
        refine wp_aload_n dX4_matchFrom_33 rfl 0 rfl ?_
        refine wp_getO (q := 64) fX4_13 hR rfl (rfl) (by decide) (by decide) rfl dX4_matchFrom_34 ?_
        refine wp_iload_n dX4_matchFrom_37 rfl 3 rfl ?_
        refine wp_iconst (v := 1) dX4_matchFrom_38 (by decide) ?_
        refine wp_iadd dX4_matchFrom_39 ?_
        refine wp_top (x' := nI (t + 1)) (nI_1 t) ?_
        obtain ⟨c, hce⟩ : ∃ c, c = 65 + 3 * (t + 1) := ⟨_, rfl⟩
        have hc : mm_K c = 7 := by rw [hce]; exact sk_K (by omega)
        refine wp_aaldO (q := c) hR (t + 1) (rfl) (rfl) (by decide) ((show t + 1 < 5 from by omega)) (hce.symm) dX4_matchFrom_40 ?_
        refine wp_astore [1, 2, 3, 4, 5, 6, 0] (by decide) rfl rfl rfl dX4_matchFrom_41 ?_
        refine wp_aload dX4_matchFrom_43 6 rfl ?_
        refine wp_aload dX4_matchFrom_45 5 rfl ?_
        refine wp_callV (mm_siteV (av := [.ref a]) hC lX4_26 (hc) (st_l0 hc) ⟨_, rfl, rfl⟩ rfl rfl (Nat.le_of_ble_eq_true rfl) dX4_matchFrom_47) (c_X7_becomeAs l (k + m + 9) _ _ _ _ _ _ S hR hc ha (by omega) hS) (by omega) (by decide) (by decide) ?_
        rintro F3 A3 _ _ ⟨hS3, hg3, rfl, rfl⟩
        have hB3 := hg3.b hc hb hB
        rw [hce] at hS3
        refine wp_aload_n dX4_matchFrom_50 rfl 0 rfl ?_
        refine wp_aload_n dX4_matchFrom_51 rfl 1 rfl ?_
        refine wp_iload_n dX4_matchFrom_52 rfl 2 rfl ?_
        refine wp_iload_n dX4_matchFrom_53 rfl 3 rfl ?_
        refine wp_iconst (v := 1) dX4_matchFrom_54 (by decide) ?_
        refine wp_iadd dX4_matchFrom_55 ?_
        refine wp_top (x' := nI (t + 1)) (nI_1 t) ?_
        refine wp_bipush (v := 10) dX4_matchFrom_56 (by decide) ?_
        refine wp_iload dX4_matchFrom_58 4 rfl ?_
        refine wp_imul dX4_matchFrom_60 ?_
        refine wp_callV (mm_siteS (av := [.ref 63, .ref b, .int am, .int (nI (t + 1)), .int (10 * fg)]) hC lX4_67 rfl rfl (Nat.le_of_ble_eq_true rfl) dX4_matchFrom_61) (ih _ _ S (t + 1) (10 * fg) (by omega) hS3 hd hB3) (by omega) (by decide) (by decide) ?_
        rintro F4 A4 _ _ ⟨hq4, hg4, rfl, rfl⟩
        have h63 : F3 63 = F 63 := hg3.1 63 (by omega)
        rw [h63] at hq4
        have hf : frK (65 + 3 * (t + 1)) F A F4 A4 := ((hg3.I (lo := 65 + 3 * (t + 1)) (hi := 79) (by omega) (by omega)).k).trans (hg4.wide (by omega))
        have hS : isS F4 A4 a S := hf.s (by omega) (by omega) hS0
        have hB := hf.b (by omega) hB0
        refine wp_iload_n dX4_matchFrom_64 rfl 2 rfl ?_
        refine wp_iload_n dX4_matchFrom_65 rfl 3 rfl ?_
        refine wp_callP (e := bt am (nI t)) (mm_siteSN (av := [.int am, .int (nI t)]) hC lX4_79 rfl rfl (Nat.le_of_ble_eq_true rfl) dX4_matchFrom_66) (c_X9_bit l (k + m + 11) _ _ _ _ _ _) (by omega) (by decide) ?_
        refine wp_if_ne 73 dX4_matchFrom_69 (by decide) (fun c3 => ?_) (fun c3 => ?_)
        · refine wp_iconst (v := 0) dX4_matchFrom_73 (by decide) ?_
          refine wp_istore [1, 2, 3, 4, 5, 6, 7, 0] (by decide) rfl rfl rfl dX4_matchFrom_74 ?_
          have lp : ∀ (nn : Nat) (h : Nat) (q : Int32 × Int32) (F5 A5 : mmF), (h ≤ B.1.1) → (matchP B am (m + 1) t S fg (F 63 1, F 63 2) = (List.range' h (B.1.1 - h)).foldl (fun q h => if canB B S t h = 0 then q else matchP B am m (t + 1) (strikeP B S t h).1 (10 * fg + nI h + 1) q) q) → ((F5 63 1, F5 63 2) = q) → (isS F5 A5 a S) → (frK (65 + 3 * (t + 1)) F A F5 A5) → B.1.1 - h < nn → WP hX4_matchFrom X 144 76 [(0, .ref 63), (1, .ref b), (2, .int am), (3, .int (nI t)), (4, .int fg), (5, .ref a), (6, .ref c), (7, .int (nI h))] [] F5 A5 R G := by
            intro nn
            induction nn with
            | zero => intro h q F5 A5 _ _ _ _ _ hm; exact absurd hm (Nat.not_lt_zero _)
            | succ nn ih_lp =>
              intro h q F5 A5 hh hv hq hS hf hm_lp
              have hB := hf.b (by omega) hB0
              refine wp_iload dX4_matchFrom_76 7 rfl ?_
              refine wp_aload_n dX4_matchFrom_78 rfl 1 rfl ?_
              refine wp_getI fX4_52 rfl (hb) (bo_l0 hb) dX4_matchFrom_79 ?_
              refine wp_top (x' := nI B.1.1) (hB.1.1) ?_
              refine wp_icmp_ge 139 dX4_matchFrom_82 (by decide) (fun c4 => ?_) (fun c4 => ?_)
              · replace c4 := (ix_le (a := B.1.1) (b := h) (rfl) (rfl) (by omega) (by omega)).mp c4
                exact wp_vret hC rfl dX4_matchFrom_139 (pV_ok ⟨by rw [hv, show B.1.1 - h = 0 by omega]; exact hq, hf, rfl, rfl⟩)
              · replace c4 := mt (ix_le (a := B.1.1) (b := h) (rfl) (rfl) (by omega) (by omega)).mpr c4
                refine wp_aload dX4_matchFrom_85 5 rfl ?_
                refine wp_aload_n dX4_matchFrom_87 rfl 1 rfl ?_
                refine wp_iload_n dX4_matchFrom_88 rfl 3 rfl ?_
                refine wp_iload dX4_matchFrom_89 7 rfl ?_
                refine wp_callP (e := canB B S t h) (mm_siteV (av := [.ref b, .int (nI t), .int (nI h)]) hC lX4_55 (ha) (st_l0 ha) ⟨_, rfl, rfl⟩ rfl rfl (Nat.le_of_ble_eq_true rfl) dX4_matchFrom_91) (c_X7_canBeThrownAt l (k + m + 9) _ _ _ _ _ _ t h S B hR ha hb hS hB hw (by omega) (by omega)) (by omega) (by decide) ?_
                refine wp_if_eq 133 dX4_matchFrom_94 (by decide) (fun c5 => ?_) (fun c5 => ?_)
                · refine wp_iinc (v := nI (h + 1)) 7 rfl (by exact nI_1 h) [1, 2, 3, 4, 5, 6, 7, 0] (by decide) rfl rfl rfl dX4_matchFrom_133 ?_
                  refine wp_goto 76 dX4_matchFrom_136 (by decide) ?_
                  exact ih_lp (h + 1) q F5 A5 (by omega) (by rw [hv, show B.1.1 - h = B.1.1 - (h + 1) + 1 by omega, List.range'_succ, List.foldl_cons]; simp only [*, if_true, if_false]) hq hS hf (by omega)
                · refine wp_aload dX4_matchFrom_97 6 rfl ?_
                  refine wp_aload dX4_matchFrom_99 5 rfl ?_
                  refine wp_callV (mm_siteV (av := [.ref a]) hC lX4_26 (hc) (st_l0 hc) ⟨_, rfl, rfl⟩ rfl rfl (Nat.le_of_ble_eq_true rfl) dX4_matchFrom_101) (c_X7_becomeAs l (k + m + 9) _ _ _ _ _ _ S hR hc ha (by omega) hS) (by omega) (by decide) (by decide) ?_
                  rintro F6 A6 _ _ ⟨hS6, hg6, rfl, rfl⟩
                  have hB6 := hg6.b hc hb hB
                  refine wp_aload dX4_matchFrom_104 6 rfl ?_
                  refine wp_aload_n dX4_matchFrom_106 rfl 1 rfl ?_
                  refine wp_iload_n dX4_matchFrom_107 rfl 3 rfl ?_
                  refine wp_iload dX4_matchFrom_108 7 rfl ?_
                  refine wp_callI (mm_siteV (av := [.ref b, .int (nI t), .int (nI h)]) hC lX4_59 (hc) (st_l0 hc) ⟨_, rfl, rfl⟩ rfl rfl (Nat.le_of_ble_eq_true rfl) dX4_matchFrom_110) (c_X7_strike l (k + m + 1) _ _ _ _ _ _ t h S B hR hc hb hS6 hB6 hw (by omega) (by omega)) (by omega) (by decide) ?_
                  rintro _ F7 A7 _ _ ⟨rfl, hS7, hg7, rfl, rfl⟩
                  have hB7 := hg7.b hc hb hB6
                  rw [hce] at hS7
                  refine wp_pop dX4_matchFrom_113 rfl ?_
                  refine wp_aload_n dX4_matchFrom_114 rfl 0 rfl ?_
                  refine wp_aload_n dX4_matchFrom_115 rfl 1 rfl ?_
                  refine wp_iload_n dX4_matchFrom_116 rfl 2 rfl ?_
                  refine wp_iload_n dX4_matchFrom_117 rfl 3 rfl ?_
                  refine wp_iconst (v := 1) dX4_matchFrom_118 (by decide) ?_
                  refine wp_iadd dX4_matchFrom_119 ?_
                  refine wp_top (x' := nI (t + 1)) (nI_1 t) ?_
                  refine wp_bipush (v := 10) dX4_matchFrom_120 (by decide) ?_
                  refine wp_iload dX4_matchFrom_122 4 rfl ?_
                  refine wp_imul dX4_matchFrom_124 ?_
                  refine wp_iload dX4_matchFrom_125 7 rfl ?_
                  refine wp_iadd dX4_matchFrom_127 ?_
                  refine wp_iconst (v := 1) dX4_matchFrom_128 (by decide) ?_
                  refine wp_iadd dX4_matchFrom_129 ?_
                  refine wp_callV (mm_siteS (av := [.ref 63, .ref b, .int am, .int (nI (t + 1)), .int (((10 * fg) + (nI h)) + 1)]) hC lX4_67 rfl rfl (Nat.le_of_ble_eq_true rfl) dX4_matchFrom_130) (ih _ _ (strikeP B S t h).1 (t + 1) (10 * fg + nI h + 1) (by omega) hS7 (dn_strike hw (by omega) hd) hB7) (by omega) (by decide) (by decide) ?_
                  rintro F8 A8 _ _ ⟨hq8, hg8, rfl, rfl⟩
                  have h63 : F7 63 = F5 63 := (hg7.1 63 (by omega)).trans (hg6.1 63 (by omega))
                  rw [h63, hq] at hq8
                  have hf : frK (65 + 3 * (t + 1)) F A F8 A8 := hf.trans ((((hg6.I (lo := 65 + 3 * (t + 1)) (hi := 79) (by omega) (by omega)).trans (hg7.I (by omega) (by omega))).k).trans (hg8.wide (by omega)))
                  have hS : isS F8 A8 a S := hf.s (by omega) (by omega) hS0
                  refine wp_iinc (v := nI (h + 1)) 7 rfl (by exact nI_1 h) [1, 2, 3, 4, 5, 6, 7, 0] (by decide) rfl rfl rfl dX4_matchFrom_133 ?_
                  refine wp_goto 76 dX4_matchFrom_136 (by decide) ?_
                  exact ih_lp (h + 1) (matchP B am m (t + 1) (strikeP B S t h).1 (10 * fg + nI h + 1) q) F8 A8 (by omega) (by rw [hv, show B.1.1 - h = B.1.1 - (h + 1) + 1 by omega, List.range'_succ, List.foldl_cons]; simp only [*, if_true, if_false]) hq8 hS hf (by omega)
          exact lp (B.1.1 + 1) 0 _ F4 A4 (Nat.zero_le _) (by rw [matchP, if_neg c3]; rfl) hq4 hS hf (by omega)
        · exact wp_vret hC rfl dX4_matchFrom_72 (pV_ok ⟨by rw [matchP, if_pos c3]; exact hq4, hf, rfl, rfl⟩)
      · replace c2 := mt (ix_lt (a := t) (b := 4) (rfl) (rfl) (by omega) (by omega)).mpr c2
        exact absurd c2 (by omega)
set_option maxRecDepth 100000 in
set_option maxHeartbeats 600000 in
theorem c_X4_matchAmong (l : Launch) (k : Nat) (F A : mmF) (R : mmR) (G : mmG) (b : Nat) (am : Int32) (S : SV) (B : BV) (hR : mm_RL R) (hb : mm_K b = 1) (hS : isS F A 3 S) (hB : isB F A b B) (hw : wfB B) (hd : dn S) : Meets l hX4_matchAmong (k + 16) 144 144 [.ref 63, .ref b, .ref 3, .int am] F A R G (pI (fun v F1 A1 R1 G1 => v = (matchP B am B.1.2.1 0 S 1 (-9, 1)).1 ∧ (F1 63 1, F1 63 2) = matchP B am B.1.2.1 0 S 1 (-9, 1) ∧ frK 65 F A F1 A1 ∧ R = R1 ∧ G = G1)) := by
  refine mm_start rfl (Nat.le_of_ble_eq_true rfl) (fun X hC => ?_)
  show WP hX4_matchAmong X 144 0 [(0, .ref 63), (1, .ref b), (2, .ref 3), (3, .int am)] [] F A R G
  have hw1 := hw.1
  have hb2 : 103 ≤ b := by rcases bo_f hb with rfl | rfl <;> decide
  refine wp_aload_n dX4_matchAmong_0 rfl 0 rfl ?_
  refine wp_bipush (v := (-9)) dX4_matchAmong_1 (by decide) ?_
  refine wp_putI fX4_19 fn_4_1 rfl (rfl) (by decide) dX4_matchAmong_3 ?_
  refine wp_aload_n dX4_matchAmong_6 rfl 0 rfl ?_
  refine wp_iconst (v := 1) dX4_matchAmong_7 (by decide) ?_
  refine wp_putI fX4_23 fn_4_2 rfl (rfl) (by decide) dX4_matchAmong_8 ?_
  obtain ⟨F1, hF1⟩ : ∃ z, z = u2 (u2 F 63 1 (-9)) 63 2 1 := ⟨_, rfl⟩
  rw [← hF1]
  have hg1 : ∀ r, r ≠ 63 → F1 r = F r := by rw [hF1]; intro r hr; simp [u2, va_up, hr]
  have hS1 : isS F1 A 3 S := by unfold isS; rw [hg1 3 (by decide)]; exact hS
  have hB : isB F1 A b B := by unfold isB; rw [hg1 b (by omega)]; exact hB
  refine wp_aload_n dX4_matchAmong_11 rfl 0 rfl ?_
  refine wp_getO (q := 64) fX4_13 hR rfl (rfl) (by decide) (by decide) rfl dX4_matchAmong_12 ?_
  refine wp_iconst (v := 0) dX4_matchAmong_15 (by decide) ?_
  refine wp_aaldO (q := 65) hR 0 (rfl) (rfl) (by decide) ((show 0 < 5 from by decide)) (rfl) dX4_matchAmong_16 ?_
  refine wp_aload_n dX4_matchAmong_17 rfl 2 rfl ?_
  refine wp_callV (mm_siteV (av := [.ref 3]) hC lX4_26 (rfl) (by decide) ⟨_, rfl, rfl⟩ rfl rfl (Nat.le_of_ble_eq_true rfl) dX4_matchAmong_18) (c_X7_becomeAs l (k + 13) _ _ _ _ _ _ S hR (rfl) (rfl) (by decide) hS1) (by omega) (by decide) (by decide) ?_
  rintro F3 A3 _ _ ⟨hS3, hg3, rfl, rfl⟩
  have hB3 := hg3.b (rfl) hb hB
  refine wp_aload_n dX4_matchAmong_21 rfl 0 rfl ?_
  refine wp_aload_n dX4_matchAmong_22 rfl 1 rfl ?_
  refine wp_iload_n dX4_matchAmong_23 rfl 3 rfl ?_
  refine wp_iconst (v := 0) dX4_matchAmong_24 (by decide) ?_
  refine wp_iconst (v := 1) dX4_matchAmong_25 (by decide) ?_
  refine wp_callV (mm_siteS (av := [.ref 63, .ref b, .int am, .int 0, .int 1]) hC lX4_67 rfl rfl (Nat.le_of_ble_eq_true rfl) dX4_matchAmong_26) (c_X4_matchFrom l (k + (4 - B.1.2.1)) _ _ b am B hR hb hw B.1.2.1 _ _ S 0 1 (by omega) hS3 hd hB3) (by omega) (by decide) (by decide) ?_
  rintro F4 A4 _ _ ⟨hq4, hg4, rfl, rfl⟩
  have h63 : F3 63 = F1 63 := hg3.1 63 (by decide)
  have hqq : (F4 63 1, F4 63 2) = matchP B am B.1.2.1 0 S 1 (-9, 1) := by rw [hq4, h63, hF1]; simp [u2, va_up]
  refine wp_aload_n dX4_matchAmong_29 rfl 0 rfl ?_
  refine wp_getI fX4_19 rfl (rfl) (by decide) dX4_matchAmong_30 ?_
  refine wp_top (x' := (matchP B am B.1.2.1 0 S 1 (-9, 1)).1) (congrArg Prod.fst hqq) ?_
  exact wp_iret hC rfl rfl dX4_matchAmong_33 (pI_ok ⟨rfl, hqq, fun r hr => ⟨fun h => (((hg4.wide (by omega)) r hr).1 h).trans (((hg3.I (a := 65) (lo := 65) (hi := 79) (by decide) (by decide)) r hr).1.trans (hg1 r h)), (((hg4.wide (by omega)) r hr).2).trans ((hg3.I (a := 65) (lo := 65) (hi := 79) (by decide) (by decide)) r hr).2⟩, rfl, rfl⟩)

set_option maxRecDepth 100000 in
set_option maxHeartbeats 600000 in
theorem c_X4_staysUp (l : Launch) (k : Nat) (F A : mmF) (R : mmR) (G : mmG) (b : Nat) (hk : Nat) (nl : Int32) (S : SV) (B : BV) (hR : mm_RL R) (hb : mm_K b = 1) (hS : isS F A 3 S) (hB : isB F A b B) (hw : wfB B) : Meets l hX4_staysUp (k + 11) 144 144 [.ref 63, .ref b, .ref 3, .int (nI hk), .int nl] F A R G (pI (fun v F1 A1 R1 G1 => v = stayP B S hk nl ∧ frI 65 67 F A F1 A1 ∧ R = R1 ∧ G = G1)) := by
  refine mm_start rfl (Nat.le_of_ble_eq_true rfl) (fun X hC => ?_)
  show WP hX4_staysUp X 144 0 [(0, .ref 63), (1, .ref b), (2, .ref 3), (3, .int (nI hk)), (4, .int nl)] [] F A R G
  have hw1 := hw.1
  have hb2 : 103 ≤ b := by rcases bo_f hb with rfl | rfl <;> decide
  have hS0 := hS
  have hB0 := hB
  refine wp_iconst (v := 0) dX4_staysUp_0 (by decide) ?_
  refine wp_istore [1, 2, 3, 4, 5, 0] (by decide) rfl rfl rfl dX4_staysUp_1 ?_
  have lp : ∀ (nn : Nat) (t : Nat) (F1 A1 : mmF), (t ≤ B.1.2.1) → (stayP B S hk nl = if scan (fun t => scan (stayS B S hk nl t) 0 B.1.1) t (B.1.2.1 - t) = -9 then 1 else 0) → (frI 65 67 F A F1 A1) → B.1.2.1 - t < nn → WP hX4_staysUp X 144 3 [(0, .ref 63), (1, .ref b), (2, .ref 3), (3, .int (nI hk)), (4, .int nl), (5, .int (nI t))] [] F1 A1 R G := by
    intro nn
    induction nn with
    | zero => intro t F1 A1 _ _ _ hm; exact absurd hm (Nat.not_lt_zero _)
    | succ nn ih_lp =>
      intro t F1 A1 ht hv hf hm_lp
      have hB := hf.b (by omega) hB0
      refine wp_iload dX4_staysUp_3 5 rfl ?_
      refine wp_aload_n dX4_staysUp_5 rfl 1 rfl ?_
      refine wp_getI fX4_47 rfl (hb) (bo_l0 hb) dX4_staysUp_6 ?_
      refine wp_top (x' := nI B.1.2.1) (hB.1.2.1) ?_
      refine wp_icmp_ge 107 dX4_staysUp_9 (by decide) (fun c1 => ?_) (fun c1 => ?_)
      · replace c1 := (ix_le (a := B.1.2.1) (b := t) (rfl) (rfl) (by omega) (by omega)).mp c1
        refine wp_iconst (v := 1) dX4_staysUp_107 (by decide) ?_
        exact wp_iret hC rfl rfl dX4_staysUp_108 (pI_ok ⟨by rw [hv, scan_end (by omega), if_pos rfl], hf, rfl, rfl⟩)
      · replace c1 := mt (ix_le (a := B.1.2.1) (b := t) (rfl) (rfl) (by omega) (by omega)).mpr c1
        refine wp_iconst (v := 0) dX4_staysUp_12 (by decide) ?_
        refine wp_istore [1, 2, 3, 4, 5, 6, 0] (by decide) rfl rfl rfl dX4_staysUp_13 ?_
        have lq : ∀ (mm : Nat) (j : Nat) (F2 A2 : mmF), (j ≤ B.1.1) → (stayP B S hk nl = if (if scan (stayS B S hk nl t) j (B.1.1 - j) = -9 then scan (fun t => scan (stayS B S hk nl t) 0 B.1.1) (t + 1) (B.1.2.1 - (t + 1)) else scan (stayS B S hk nl t) j (B.1.1 - j)) = -9 then 1 else 0) → (frI 65 67 F A F2 A2) → B.1.1 - j < mm → WP hX4_staysUp X 144 15 [(0, .ref 63), (1, .ref b), (2, .ref 3), (3, .int (nI hk)), (4, .int nl), (5, .int (nI t)), (6, .int (nI j))] [] F2 A2 R G := by
          intro mm
          induction mm with
          | zero => intro j F2 A2 _ _ _ hm; exact absurd hm (Nat.not_lt_zero _)
          | succ mm ih_lq =>
            intro j F2 A2 hj hv2 hf hm_lq
            have hB := hf.b (by omega) hB0
            have hS := hf.s (c := 3) (by decide) hS0
            refine wp_iload dX4_staysUp_15 6 rfl ?_
            refine wp_aload_n dX4_staysUp_17 rfl 1 rfl ?_
            refine wp_getI fX4_52 rfl (hb) (bo_l0 hb) dX4_staysUp_18 ?_
            refine wp_top (x' := nI B.1.1) (hB.1.1) ?_
            refine wp_icmp_ge 101 dX4_staysUp_21 (by decide) (fun c2 => ?_) (fun c2 => ?_)
            · replace c2 := (ix_le (a := B.1.1) (b := j) (rfl) (rfl) (by omega) (by omega)).mp c2
              refine wp_iinc (v := nI (t + 1)) 5 rfl (by exact nI_1 t) [1, 2, 3, 4, 5, 0, 7] (by decide) rfl rfl rfl dX4_staysUp_101 ?_
              refine wp_goto 3 dX4_staysUp_104 (by decide) ?_
              refine wp_lv [0, 1, 2, 3, 4, 5] rfl ?_
              exact ih_lp (t + 1) F2 A2 (by omega) (by rw [hv2, scan_end (by omega), if_pos rfl]) hf (by omega)
            · replace c2 := mt (ix_le (a := B.1.1) (b := j) (rfl) (rfl) (by omega) (by omega)).mpr c2
              refine wp_aload_n dX4_staysUp_24 rfl 2 rfl ?_
              refine wp_aload_n dX4_staysUp_25 rfl 1 rfl ?_
              refine wp_iload dX4_staysUp_26 5 rfl ?_
              refine wp_iload dX4_staysUp_28 6 rfl ?_
              refine wp_callP (e := canB B S t j) (mm_siteV (av := [.ref b, .int (nI t), .int (nI j)]) hC lX4_55 (rfl) (by decide) ⟨_, rfl, rfl⟩ rfl rfl (Nat.le_of_ble_eq_true rfl) dX4_staysUp_30) (c_X7_canBeThrownAt l (k + 8) _ _ _ _ _ _ t j S B hR rfl hb hS hB hw (by omega) (by omega)) (by omega) (by decide) ?_
              refine wp_if_ne 39 dX4_staysUp_33 (by decide) (fun c3 => ?_) (fun c3 => ?_)
              · refine wp_aload_n dX4_staysUp_39 rfl 0 rfl ?_
                refine wp_getO (q := 64) fX4_13 hR rfl (rfl) (by decide) (by decide) rfl dX4_staysUp_40 ?_
                refine wp_iconst (v := 0) dX4_staysUp_43 (by decide) ?_
                refine wp_aaldO (q := 65) hR 0 (rfl) (rfl) (by decide) ((show 0 < 5 from by decide)) (rfl) dX4_staysUp_44 ?_
                refine wp_aload_n dX4_staysUp_45 rfl 2 rfl ?_
                refine wp_callV (mm_siteV (av := [.ref 3]) hC lX4_26 (rfl) (by decide) ⟨_, rfl, rfl⟩ rfl rfl (Nat.le_of_ble_eq_true rfl) dX4_staysUp_46) (c_X7_becomeAs l (k + 8) _ _ _ _ _ _ S hR (rfl) (rfl) (by decide) hS) (by omega) (by decide) (by decide) ?_
                rintro F3 A3 _ _ ⟨hS3, hg3, rfl, rfl⟩
                have hB3 := hg3.b (rfl) hb hB
                refine wp_aload_n dX4_staysUp_49 rfl 0 rfl ?_
                refine wp_getO (q := 64) fX4_13 hR rfl (rfl) (by decide) (by decide) rfl dX4_staysUp_50 ?_
                refine wp_iconst (v := 0) dX4_staysUp_53 (by decide) ?_
                refine wp_aaldO (q := 65) hR 0 (rfl) (rfl) (by decide) ((show 0 < 5 from by decide)) (rfl) dX4_staysUp_54 ?_
                refine wp_dup dX4_staysUp_55 rfl ?_
                refine wp_getI fX4_83 rfl (rfl) (by decide) dX4_staysUp_56 ?_
                refine wp_top (x' := S.2.2 4) (hS3.2.2.2.2.1) ?_
                refine wp_iload dX4_staysUp_59 4 rfl ?_
                refine wp_ior dX4_staysUp_61 ?_
                refine wp_putI fX4_83 fn_7_4 rfl (rfl) (by decide) dX4_staysUp_62 ?_
                obtain ⟨F4, hF4⟩ : ∃ z, z = u2 F3 65 4 ((S.2.2 4) ||| nl) := ⟨_, rfl⟩
                rw [← hF4]
                have hg4 : fr 65 F3 A3 F4 A3 := by rw [hF4]; exact ⟨fun r hr => by simp [u2, va_up, hr], fun _ _ _ => rfl⟩
                have hS4 : isS F4 A3 65 (orN S nl) := by rw [hF4]; exact ⟨hS3.1, hS3.2.1, by simp [u2, va_up, orN, hS3.2.2.1], by simp [u2, va_up, orN, hS3.2.2.2.1], by simp [u2, va_up, orN], by simp [u2, va_up, orN, hS3.2.2.2.2.2.1], by simp [u2, va_up, orN, hS3.2.2.2.2.2.2]⟩
                have hB4 := hg4.b rfl hb hB3
                refine wp_aload_n dX4_staysUp_65 rfl 0 rfl ?_
                refine wp_getO (q := 64) fX4_13 hR rfl (rfl) (by decide) (by decide) rfl dX4_staysUp_66 ?_
                refine wp_iconst (v := 0) dX4_staysUp_69 (by decide) ?_
                refine wp_aaldO (q := 65) hR 0 (rfl) (rfl) (by decide) ((show 0 < 5 from by decide)) (rfl) dX4_staysUp_70 ?_
                refine wp_aload_n dX4_staysUp_71 rfl 1 rfl ?_
                refine wp_iload dX4_staysUp_72 5 rfl ?_
                refine wp_iload dX4_staysUp_74 6 rfl ?_
                refine wp_callI (mm_siteV (av := [.ref b, .int (nI t), .int (nI j)]) hC lX4_59 (rfl) (by decide) ⟨_, rfl, rfl⟩ rfl rfl (Nat.le_of_ble_eq_true rfl) dX4_staysUp_76) (c_X7_strike l k _ _ _ _ _ _ t j (orN S nl) B hR rfl hb hS4 hB4 hw (by omega) (by omega)) (by omega) (by decide) ?_
                rintro _ F5 A5 _ _ ⟨rfl, hS5, hg5, rfl, rfl⟩
                have hB5 := hg5.b (rfl) hb hB4
                have hf := hf.trans (((hg3.I (a := 65) (lo := 65) (hi := 67) (by decide) (by decide)).trans (hg4.I (by decide) (by decide))).trans (hg5.I (by decide) (by decide)))
                refine wp_pop dX4_staysUp_79 rfl ?_
                refine wp_aload_n dX4_staysUp_80 rfl 0 rfl ?_
                refine wp_getO (q := 64) fX4_13 hR rfl (rfl) (by decide) (by decide) rfl dX4_staysUp_81 ?_
                refine wp_iconst (v := 0) dX4_staysUp_84 (by decide) ?_
                refine wp_aaldO (q := 65) hR 0 (rfl) (rfl) (by decide) ((show 0 < 5 from by decide)) (rfl) dX4_staysUp_85 ?_
                refine wp_iload_n dX4_staysUp_86 rfl 3 rfl ?_
                refine wp_callP (e := upP ((strikeP B (orN S nl) t j).1.2.2 2) (nI hk)) (mm_siteV (av := [.int (nI hk)]) hC lX4_43 (rfl) (by decide) ⟨_, rfl, rfl⟩ rfl rfl (Nat.le_of_ble_eq_true rfl) dX4_staysUp_87) (cS_isUp l (k + 9) _ _ _ _ _ _ (strikeP B (orN S nl) t j).1 rfl hS5) (by omega) (by decide) ?_
                refine wp_if_ne 95 dX4_staysUp_90 (by decide) (fun c4 => ?_) (fun c4 => ?_)
                · refine wp_iinc (v := nI (j + 1)) 6 rfl (by exact nI_1 j) [1, 2, 3, 4, 5, 6, 0] (by decide) rfl rfl rfl dX4_staysUp_95 ?_
                  refine wp_goto 15 dX4_staysUp_98 (by decide) ?_
                  exact ih_lq (j + 1) F5 A5 (by omega) (by rw [hv2, scan_go (by omega) (by unfold stayS; simp [*])]) hf (by omega)
                · have hne : stayS B S hk nl t j = 0 := by unfold stayS; simp [*]
                  refine wp_iconst (v := 0) dX4_staysUp_93 (by decide) ?_
                  exact wp_iret hC rfl rfl dX4_staysUp_94 (pI_ok ⟨by rw [hv2, scan_at (by omega) (by rw [hne]; decide), hne]; rfl, hf, rfl, rfl⟩)
              · refine wp_goto 95 dX4_staysUp_36 (by decide) ?_
                refine wp_iinc (v := nI (j + 1)) 6 rfl (by exact nI_1 j) [1, 2, 3, 4, 5, 6, 0] (by decide) rfl rfl rfl dX4_staysUp_95 ?_
                refine wp_goto 15 dX4_staysUp_98 (by decide) ?_
                exact ih_lq (j + 1) F2 A2 (by omega) (by rw [hv2, scan_go (by omega) (by unfold stayS; simp [*])]) hf (by omega)
        exact lq (B.1.1 + 1) 0 F1 A1 (Nat.zero_le _) (by rw [hv, show B.1.2.1 - t = B.1.2.1 - (t + 1) + 1 by omega, scan, Nat.sub_zero]) hf (by omega)
  exact lp (B.1.2.1 + 1) 0 F A (Nat.zero_le _) rfl (frI.refl _ _ F A) (by omega)

