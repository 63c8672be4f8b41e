set_option maxRecDepth 100000 in
set_option maxHeartbeats 600000 in
theorem c_X9_toss (l : Launch) (k : Nat) (F A : mmF) (R : mmR) (G : mmG) (t pl lk : Int32) (Q : QV) (hX : RepX F A R G Q) (hwf : wfQ Q) : Meets l hX9_toss (k + 12) 144 144 [.ref 0, .int t, .int pl, .int lk] F A R G (pI (fun v F1 A1 R1 G1 => v = (wToss Q t pl lk).2 ∧ RepX F1 A1 R1 G1 (wToss Q t pl lk).1 ∧ frX F A R G F1 A1 R1 G1)) := by
  refine mm_start rfl (Nat.le_of_ble_eq_true rfl) (fun X hC => ?_)
  show WP hX9_toss X 144 0 [(0, .ref 0), (1, .int t), (2, .int pl), (3, .int lk)] [] F A R G
  obtain ⟨b, d, fi, hR, ⟨hRb, hRd, hb, hd, hbd⟩, ⟨hn, ht⟩, hB, hS, ⟨ha1, ha2, hfi, hac⟩, ⟨he, hes⟩, hk, hg⟩ := id hX
  obtain ⟨hw60, hw, hwS, hwA, hwE, hwK⟩ := id hwf
  have hw1 := hw.1
  have hb2 := bo_f hb
  have hd2 := bo_f hd
  refine wp_aload_n dX9_toss_0 rfl 0 rfl ?_
  refine wp_iload_n dX9_toss_1 rfl 1 rfl ?_
  refine wp_iload_n dX9_toss_2 rfl 2 rfl ?_
  refine wp_iload_n dX9_toss_3 rfl 3 rfl ?_
  refine wp_callP (e := noTh Q t pl lk) (mm_siteV (av := [.int t, .int pl, .int lk]) hC lX9_170 (rfl) (by decide) ⟨_, rfl, rfl⟩ rfl rfl (Nat.le_of_ble_eq_true rfl) dX9_toss_4) (c_X9_refusalOfThrow l (k + 10) _ _ _ _ _ _ _ Q hX hwf) (by omega) (by decide) ?_
  refine wp_istore [1, 2, 3, 4, 0] (by decide) rfl rfl rfl dX9_toss_7 ?_
  refine wp_iload dX9_toss_9 4 rfl ?_
  refine wp_bipush (v := (-9)) dX9_toss_11 (by decide) ?_
  refine wp_icmp_eq 19 dX9_toss_13 (by decide) (fun c1 => ?_) (fun c1 => ?_)
  · obtain ⟨⟨t, htn, rfl⟩, ⟨pp, hpp, hpe⟩, qq, hqq, hqe⟩ := noTh_nat hw c1
    refine wp_aload_n dX9_toss_19 rfl 0 rfl ?_
    refine wp_getO (q := 3) fX9_19 hR rfl (rfl) (by decide) (by decide) rfl dX9_toss_20 ?_
    refine wp_getI fX9_111 rfl (rfl) (by decide) dX9_toss_23 ?_
    refine wp_top (x' := (qS Q).2.2 6) (hS.2.2.2.2.2.2) ?_
    refine wp_if_ne 32 dX9_toss_26 (by decide) (fun c2 => ?_) (fun c2 => ?_)
    · refine wp_aload_n dX9_toss_32 rfl 0 rfl ?_
      refine wp_getO (q := 6) fX9_26 hR rfl (rfl) (by decide) (by decide) rfl dX9_toss_33 ?_
      refine wp_aload_n dX9_toss_36 rfl 0 rfl ?_
      refine wp_getO (q := 3) fX9_19 hR rfl (rfl) (by decide) (by decide) rfl dX9_toss_37 ?_
      refine wp_callV (mm_siteV (av := [.ref 3]) hC lX9_178 (rfl) (by decide) ⟨_, rfl, rfl⟩ rfl rfl (Nat.le_of_ble_eq_true rfl) dX9_toss_40) (c_X0_remember l (k + 8) _ _ _ _ fi (qA Q).length (qS Q) hR ha1 ha2 hfi hwA.1 hS) (by omega) (by decide) (by decide) ?_
      rintro F1 A1 _ _ ⟨e1, e2, e3, e4, e5, rfl, rfl⟩
      obtain ⟨hX1, hfx1⟩ := hX.rem hwA.1 (F1 := F1) (A1 := A1) (fun fi' h1 h2 => by rw [show fi' = fi from by have h3 := h1.symm.trans ha1; rw [nI_eq (by omega) (by omega)] at h3; exact h3]; exact ⟨e1, e2, e3, e4, e5⟩)
      have hf1 : frI 6 49 F A F1 A1 := remP.I (fi := fi) (cn := (qA Q).length) (S := qS Q) ⟨e1, e2, e3, e4, e5⟩
      have hB := hf1.b (by omega) hB
      have hS := hf1.s (c := 3) (by decide) hS
      refine wp_aload_n dX9_toss_43 rfl 0 rfl ?_
      refine wp_getO (q := 3) fX9_19 hR rfl (rfl) (by decide) (by decide) rfl dX9_toss_44 ?_
      refine wp_dup dX9_toss_47 rfl ?_
      refine wp_getI fX9_111 rfl (rfl) (by decide) dX9_toss_48 ?_
      refine wp_top (x' := (qS Q).2.2 6) (hS.2.2.2.2.2.2) ?_
      refine wp_iconst (v := 1) dX9_toss_51 (by decide) ?_
      refine wp_isub dX9_toss_52 ?_
      refine wp_putI fX9_111 fn_7_6 rfl (rfl) (by decide) dX9_toss_53 ?_
      obtain ⟨F2, hF2⟩ : ∃ z, z = u2 F1 3 6 (((qS Q).2.2 6) - 1) := ⟨_, rfl⟩
      rw [← hF2]
      have hg2 : fr 3 F1 A1 F2 A1 := by rw [hF2]; exact ⟨fun r hr => by simp [u2, va_up, hr], fun _ _ _ => rfl⟩
      have hS : isS F2 A1 3 (decS (qS Q)) := by rw [hF2]; exact ⟨hS.1, hS.2.1, by simp [u2, va_up, decS, windS, hS.2.2.1], by simp [u2, va_up, decS, windS, hS.2.2.2.1], by simp [u2, va_up, decS, windS, hS.2.2.2.2.1], by simp [u2, va_up, decS, windS, hS.2.2.2.2.2.1], by simp [u2, va_up, decS, windS, hS.2.2.2.2.2.2]⟩
      have hB := hg2.b rfl hb hB
      refine wp_aload_n dX9_toss_56 rfl 0 rfl ?_
      refine wp_getO (q := 3) fX9_19 hR rfl (rfl) (by decide) (by decide) rfl dX9_toss_57 ?_
      refine wp_aload_n dX9_toss_60 rfl 0 rfl ?_
      refine wp_getR (q := b) fX9_68 rfl (rfl) (by decide) (hRb) dX9_toss_61 ?_
      refine wp_iload_n dX9_toss_64 rfl 1 rfl ?_
      refine wp_iload_n dX9_toss_65 rfl 2 rfl ?_
      refine wp_iload_n dX9_toss_66 rfl 3 rfl ?_
      refine wp_callI (mm_siteV (av := [.ref b, .int (nI t), .int pl, .int lk]) hC lX9_182 (rfl) (by decide) ⟨_, rfl, rfl⟩ rfl rfl (Nat.le_of_ble_eq_true rfl) dX9_toss_67) (c_X7_throwBy l k _ _ _ _ _ _ t pl lk (decS (qS Q)) (qB Q) hR rfl hb hS hB hw htn) (by omega) (by decide) ?_
      rintro _ F3 A3 _ _ ⟨rfl, hS, hg3, rfl, rfl⟩
      exact wp_iret hC rfl rfl dX9_toss_70 (pI_ok (by unfold wToss; rw [if_pos c1, if_neg c2, nI_clamp (by omega)]; exact ⟨rfl, (hX1.st hS (hg2.trans hg3)).1, hfx1.trans (hX1.st hS (hg2.trans hg3)).2⟩))
    · refine wp_bipush (v := (-3)) dX9_toss_29 (by decide) ?_
      exact wp_iret hC rfl rfl dX9_toss_31 (pI_ok (by unfold wToss; rw [if_pos c1, if_pos c2]; exact ⟨rfl, hX, frX.refl F A R G⟩))
  · refine wp_iload dX9_toss_16 4 rfl ?_
    exact wp_iret hC rfl rfl dX9_toss_18 (pI_ok (by unfold wToss; rw [if_neg c1]; exact ⟨rfl, hX, frX.refl F A R G⟩))

set_option maxRecDepth 100000 in
set_option maxHeartbeats 600000 in
theorem c_X9_set (l : Launch) (k : Nat) (F A : mmF) (R : mmR) (G : mmG) (x : Int32) (Q : QV) (hX : RepX F A R G Q) (hwf : wfQ Q) : Meets l hX9_set (k + 4) 144 144 [.ref 0, .int x] F A R G (pI (fun v F1 A1 R1 G1 => v = (wSet Q x).2 ∧ RepX F1 A1 R1 G1 (wSet Q x).1 ∧ frX F A R G F1 A1 R1 G1)) := by
  refine mm_start rfl (Nat.le_of_ble_eq_true rfl) (fun X hC => ?_)
  show WP hX9_set X 144 0 [(0, .ref 0), (1, .int x)] [] F A R G
  obtain ⟨b, d, fi, hR, ⟨hRb, hRd, hb, hd, hbd⟩, ⟨hn, ht⟩, hB, hS, ⟨ha1, ha2, hfi, hac⟩, ⟨he, hes⟩, hk, hg⟩ := id hX
  obtain ⟨hw60, hw, hwS, hwA, hwE, hwK⟩ := id hwf
  have hw1 := hw.1
  have hb2 := bo_f hb
  have hd2 := bo_f hd
  refine wp_aload_n dX9_set_0 rfl 0 rfl ?_
  refine wp_getR (q := b) fX9_68 rfl (rfl) (by decide) (hRb) dX9_set_1 ?_
  refine wp_iload_n dX9_set_4 rfl 1 rfl ?_
  refine wp_callP (e := isIn x (nI (qB Q).1.1)) (mm_siteV (av := [.int x]) hC lX9_121 (hb) (bo_l0 hb) ⟨_, rfl, rfl⟩ rfl rfl (Nat.le_of_ble_eq_true rfl) dX9_set_5) (cB_isHusk l (k + 3) _ _ _ _ _ _ (qB Q) hb hB) (by omega) (by decide) ?_
  refine wp_if_ne 13 dX9_set_8 (by decide) (fun c1 => ?_) (fun c1 => ?_)
  · obtain ⟨h, hh, rfl⟩ := isIn_nat (by omega) c1
    refine wp_aload_n dX9_set_13 rfl 0 rfl ?_
    refine wp_getO (q := 3) fX9_19 hR rfl (rfl) (by decide) (by decide) rfl dX9_set_14 ?_
    refine wp_iload_n dX9_set_17 rfl 1 rfl ?_
    refine wp_callP (e := upP ((qS Q).2.2 2) (nI h)) (mm_siteV (av := [.int (nI h)]) hC lX9_186 (rfl) (by decide) ⟨_, rfl, rfl⟩ rfl rfl (Nat.le_of_ble_eq_true rfl) dX9_set_18) (cS_isUp l (k + 2) _ _ _ _ _ _ (qS Q) rfl hS) (by omega) (by decide) ?_
    refine wp_if_eq 27 dX9_set_21 (by decide) (fun c2 => ?_) (fun c2 => ?_)
    · rw [upP_eq] at c2
      refine wp_aload_n dX9_set_27 rfl 0 rfl ?_
      refine wp_getO (q := 6) fX9_26 hR rfl (rfl) (by decide) (by decide) rfl dX9_set_28 ?_
      refine wp_aload_n dX9_set_31 rfl 0 rfl ?_
      refine wp_getO (q := 3) fX9_19 hR rfl (rfl) (by decide) (by decide) rfl dX9_set_32 ?_
      refine wp_callV (mm_siteV (av := [.ref 3]) hC lX9_178 (rfl) (by decide) ⟨_, rfl, rfl⟩ rfl rfl (Nat.le_of_ble_eq_true rfl) dX9_set_35) (c_X0_remember l k _ _ _ _ fi (qA Q).length (qS Q) hR ha1 ha2 hfi hwA.1 hS) (by omega) (by decide) (by decide) ?_
      rintro F1 A1 _ _ ⟨e1, e2, e3, e4, e5, rfl, rfl⟩
      obtain ⟨hX1, hfx1⟩ := hX.rem hwA.1 (F1 := F1) (A1 := A1) (fun fi' h1 h2 => by rw [show fi' = fi from by have h3 := h1.symm.trans ha1; rw [nI_eq (by omega) (by omega)] at h3; exact h3]; exact ⟨e1, e2, e3, e4, e5⟩)
      have hf1 : frI 6 49 F A F1 A1 := remP.I (fi := fi) (cn := (qA Q).length) (S := qS Q) ⟨e1, e2, e3, e4, e5⟩
      have hB := hf1.b (by omega) hB
      have hS := hf1.s (c := 3) (by decide) hS
      refine wp_aload_n dX9_set_38 rfl 0 rfl ?_
      refine wp_getO (q := 3) fX9_19 hR rfl (rfl) (by decide) (by decide) rfl dX9_set_39 ?_
      refine wp_iload_n dX9_set_42 rfl 1 rfl ?_
      refine wp_callI (mm_siteV (av := [.int (nI h)]) hC lX9_189 (rfl) (by decide) ⟨_, rfl, rfl⟩ rfl rfl (Nat.le_of_ble_eq_true rfl) dX9_set_43) (c_X7_setUp l (k + 1) _ _ _ _ _ h (qS Q) hR rfl hS (by omega)) (by omega) (by decide) ?_
      rintro _ F3 A3 _ _ ⟨rfl, hS, hg3, rfl, rfl⟩
      have hB := hg3.b rfl hb hB
      refine wp_pop dX9_set_46 rfl ?_
      refine wp_aload_n dX9_set_47 rfl 0 rfl ?_
      refine wp_getO (q := 3) fX9_19 hR rfl (rfl) (by decide) (by decide) rfl dX9_set_48 ?_
      refine wp_aload_n dX9_set_51 rfl 0 rfl ?_
      refine wp_getR (q := b) fX9_68 rfl (rfl) (by decide) (hRb) dX9_set_52 ?_
      refine wp_iload_n dX9_set_55 rfl 1 rfl ?_
      refine wp_callP (e := firmB (qB Q) (setS (qS Q) h) h) (mm_siteV (av := [.ref b, .int (nI h)]) hC lX9_134 (rfl) (by decide) ⟨_, rfl, rfl⟩ rfl rfl (Nat.le_of_ble_eq_true rfl) dX9_set_56) (cS_firmness l (k + 2) _ _ _ _ _ _ _ (setS (qS Q) h) (qB Q) hR rfl hb hS hB hw hh) (by omega) (by decide) ?_
      exact wp_iret hC rfl rfl dX9_set_59 (pI_ok (by unfold wSet; rw [if_neg c1, if_neg c2, nI_clamp (by omega)]; exact ⟨rfl, (hX1.st hS hg3).1, hfx1.trans (hX1.st hS hg3).2⟩))
    · rw [upP_eq, Classical.not_not] at c2
      refine wp_bipush (v := (-3)) dX9_set_24 (by decide) ?_
      exact wp_iret hC rfl rfl dX9_set_26 (pI_ok (by unfold wSet; rw [if_neg c1, if_pos c2]; exact ⟨rfl, hX, frX.refl F A R G⟩))
  · refine wp_iconst (v := (-1)) dX9_set_11 (by decide) ?_
    exact wp_iret hC rfl rfl dX9_set_12 (pI_ok (by unfold wSet; rw [if_pos c1]; exact ⟨rfl, hX, frX.refl F A R G⟩))

set_option maxRecDepth 100000 in
set_option maxHeartbeats 600000 in
theorem c_X9_nail (l : Launch) (k : Nat) (F A : mmF) (R : mmR) (G : mmG) (x : Int32) (Q : QV) (hX : RepX F A R G Q) (hwf : wfQ Q) : Meets l hX9_nail (k + 4) 144 144 [.ref 0, .int x] F A R G (pI (fun v F1 A1 R1 G1 => v = (wNail Q x).2 ∧ RepX F1 A1 R1 G1 (wNail Q x).1 ∧ frX F A R G F1 A1 R1 G1)) := by
  refine mm_start rfl (Nat.le_of_ble_eq_true rfl) (fun X hC => ?_)
  show WP hX9_nail X 144 0 [(0, .ref 0), (1, .int x)] [] F A R G
  obtain ⟨b, d, fi, hR, ⟨hRb, hRd, hb, hd, hbd⟩, ⟨hn, ht⟩, hB, hS, ⟨ha1, ha2, hfi, hac⟩, ⟨he, hes⟩, hk, hg⟩ := id hX
  obtain ⟨hw60, hw, hwS, hwA, hwE, hwK⟩ := id hwf
  have hw1 := hw.1
  have hb2 := bo_f hb
  have hd2 := bo_f hd
  refine wp_aload_n dX9_nail_0 rfl 0 rfl ?_
  refine wp_getR (q := b) fX9_68 rfl (rfl) (by decide) (hRb) dX9_nail_1 ?_
  refine wp_iload_n dX9_nail_4 rfl 1 rfl ?_
  refine wp_callP (e := isIn x (nI (qB Q).1.1)) (mm_siteV (av := [.int x]) hC lX9_121 (hb) (bo_l0 hb) ⟨_, rfl, rfl⟩ rfl rfl (Nat.le_of_ble_eq_true rfl) dX9_nail_5) (cB_isHusk l (k + 3) _ _ _ _ _ _ (qB Q) hb hB) (by omega) (by decide) ?_
  refine wp_if_ne 13 dX9_nail_8 (by decide) (fun c1 => ?_) (fun c1 => ?_)
  · obtain ⟨h, hh, rfl⟩ := isIn_nat (by omega) c1
    refine wp_aload_n dX9_nail_13 rfl 0 rfl ?_
    refine wp_getO (q := 3) fX9_19 hR rfl (rfl) (by decide) (by decide) rfl dX9_nail_14 ?_
    refine wp_iload_n dX9_nail_17 rfl 1 rfl ?_
    refine wp_callP (e := upP ((qS Q).2.2 2) (nI h)) (mm_siteV (av := [.int (nI h)]) hC lX9_186 (rfl) (by decide) ⟨_, rfl, rfl⟩ rfl rfl (Nat.le_of_ble_eq_true rfl) dX9_nail_18) (cS_isUp l (k + 2) _ _ _ _ _ _ (qS Q) rfl hS) (by omega) (by decide) ?_
    refine wp_if_ne 27 dX9_nail_21 (by decide) (fun c2 => ?_) (fun c2 => ?_)
    · rw [upP_eq, Classical.not_not] at c2
      refine wp_aload_n dX9_nail_27 rfl 0 rfl ?_
      refine wp_getO (q := 6) fX9_26 hR rfl (rfl) (by decide) (by decide) rfl dX9_nail_28 ?_
      refine wp_aload_n dX9_nail_31 rfl 0 rfl ?_
      refine wp_getO (q := 3) fX9_19 hR rfl (rfl) (by decide) (by decide) rfl dX9_nail_32 ?_
      refine wp_callV (mm_siteV (av := [.ref 3]) hC lX9_178 (rfl) (by decide) ⟨_, rfl, rfl⟩ rfl rfl (Nat.le_of_ble_eq_true rfl) dX9_nail_35) (c_X0_remember l k _ _ _ _ fi (qA Q).length (qS Q) hR ha1 ha2 hfi hwA.1 hS) (by omega) (by decide) (by decide) ?_
      rintro F1 A1 _ _ ⟨e1, e2, e3, e4, e5, rfl, rfl⟩
      obtain ⟨hX1, hfx1⟩ := hX.rem hwA.1 (F1 := F1) (A1 := A1) (fun fi' h1 h2 => by rw [show fi' = fi from by have h3 := h1.symm.trans ha1; rw [nI_eq (by omega) (by omega)] at h3; exact h3]; exact ⟨e1, e2, e3, e4, e5⟩)
      have hf1 : frI 6 49 F A F1 A1 := remP.I (fi := fi) (cn := (qA Q).length) (S := qS Q) ⟨e1, e2, e3, e4, e5⟩
      have hB := hf1.b (by omega) hB
      have hS := hf1.s (c := 3) (by decide) hS
      refine wp_aload_n dX9_nail_38 rfl 0 rfl ?_
      refine wp_getO (q := 3) fX9_19 hR rfl (rfl) (by decide) (by decide) rfl dX9_nail_39 ?_
      refine wp_iload_n dX9_nail_42 rfl 1 rfl ?_
      refine wp_callI (mm_siteV (av := [.int (nI h)]) hC lX9_192 (rfl) (by decide) ⟨_, rfl, rfl⟩ rfl rfl (Nat.le_of_ble_eq_true rfl) dX9_nail_43) (c_X7_turnNail l (k + 1) _ _ _ _ _ h (qS Q) hR rfl hS (by omega)) (by omega) (by decide) ?_
      rintro _ F3 A3 _ _ ⟨rfl, hS, hg3, rfl, rfl⟩
      have hB := hg3.b rfl hb hB
      refine wp_pop dX9_nail_46 rfl ?_
      refine wp_aload_n dX9_nail_47 rfl 0 rfl ?_
      refine wp_getO (q := 3) fX9_19 hR rfl (rfl) (by decide) (by decide) rfl dX9_nail_48 ?_
      refine wp_aload_n dX9_nail_51 rfl 0 rfl ?_
      refine wp_getR (q := b) fX9_68 rfl (rfl) (by decide) (hRb) dX9_nail_52 ?_
      refine wp_iload_n dX9_nail_55 rfl 1 rfl ?_
      refine wp_callP (e := firmB (qB Q) (nailS (qS Q) h) h) (mm_siteV (av := [.ref b, .int (nI h)]) hC lX9_134 (rfl) (by decide) ⟨_, rfl, rfl⟩ rfl rfl (Nat.le_of_ble_eq_true rfl) dX9_nail_56) (cS_firmness l (k + 2) _ _ _ _ _ _ _ (nailS (qS Q) h) (qB Q) hR rfl hb hS hB hw hh) (by omega) (by decide) ?_
      exact wp_iret hC rfl rfl dX9_nail_59 (pI_ok (by unfold wNail; rw [if_neg c1, if_pos c2, nI_clamp (by omega)]; exact ⟨rfl, (hX1.st hS hg3).1, hfx1.trans (hX1.st hS hg3).2⟩))
    · rw [upP_eq] at c2
      refine wp_bipush (v := (-3)) dX9_nail_24 (by decide) ?_
      exact wp_iret hC rfl rfl dX9_nail_26 (pI_ok (by unfold wNail; rw [if_neg c1, if_neg c2]; exact ⟨rfl, hX, frX.refl F A R G⟩))
  · refine wp_iconst (v := (-1)) dX9_nail_11 (by decide) ?_
    exact wp_iret hC rfl rfl dX9_nail_12 (pI_ok (by unfold wNail; rw [if_pos c1]; exact ⟨rfl, hX, frX.refl F A R G⟩))

set_option maxRecDepth 100000 in
set_option maxHeartbeats 600000 in
theorem c_X9_pay (l : Launch) (k : Nat) (F A : mmF) (R : mmR) (G : mmG)  (Q : QV) (hX : RepX F A R G Q) (hwf : wfQ Q) : Meets l hX9_pay (k + 4) 144 144 [.ref 0] F A R G (pI (fun v F1 A1 R1 G1 => v = (wPay Q).2 ∧ RepX F1 A1 R1 G1 (wPay Q).1 ∧ frX F A R G F1 A1 R1 G1)) := by
  refine mm_start rfl (Nat.le_of_ble_eq_true rfl) (fun X hC => ?_)
  show WP hX9_pay X 144 0 [(0, .ref 0)] [] F A R G
  obtain ⟨b, d, fi, hR, ⟨hRb, hRd, hb, hd, hbd⟩, ⟨hn, ht⟩, hB, hS, ⟨ha1, ha2, hfi, hac⟩, ⟨he, hes⟩, hk, hg⟩ := id hX
  obtain ⟨hw60, hw, hwS, hwA, hwE, hwK⟩ := id hwf
  have hw1 := hw.1
  have hb2 := bo_f hb
  have hd2 := bo_f hd
  refine wp_aload_n dX9_pay_0 rfl 0 rfl ?_
  refine wp_getO (q := 3) fX9_19 hR rfl (rfl) (by decide) (by decide) rfl dX9_pay_1 ?_
  refine wp_getI fX9_111 rfl (rfl) (by decide) dX9_pay_4 ?_
  refine wp_top (x' := (qS Q).2.2 6) (hS.2.2.2.2.2.2) ?_
  refine wp_bipush (v := 9) dX9_pay_7 (by decide) ?_
  refine wp_icmp_lt 15 dX9_pay_9 (by decide) (fun c1 => ?_) (fun c1 => ?_)
  · refine wp_aload_n dX9_pay_15 rfl 0 rfl ?_
    refine wp_getO (q := 6) fX9_26 hR rfl (rfl) (by decide) (by decide) rfl dX9_pay_16 ?_
    refine wp_aload_n dX9_pay_19 rfl 0 rfl ?_
    refine wp_getO (q := 3) fX9_19 hR rfl (rfl) (by decide) (by decide) rfl dX9_pay_20 ?_
    refine wp_callV (mm_siteV (av := [.ref 3]) hC lX9_178 (rfl) (by decide) ⟨_, rfl, rfl⟩ rfl rfl (Nat.le_of_ble_eq_true rfl) dX9_pay_23) (c_X0_remember l k _ _ _ _ fi (qA Q).length (qS Q) hR ha1 ha2 hfi hwA.1 hS) (by omega) (by decide) (by decide) ?_
    rintro F1 A1 _ _ ⟨e1, e2, e3, e4, e5, rfl, rfl⟩
    obtain ⟨hX1, hfx1⟩ := hX.rem hwA.1 (F1 := F1) (A1 := A1) (fun fi' h1 h2 => by rw [show fi' = fi from by have h3 := h1.symm.trans ha1; rw [nI_eq (by omega) (by omega)] at h3; exact h3]; exact ⟨e1, e2, e3, e4, e5⟩)
    have hf1 : frI 6 49 F A F1 A1 := remP.I (fi := fi) (cn := (qA Q).length) (S := qS Q) ⟨e1, e2, e3, e4, e5⟩
    have hB := hf1.b (by omega) hB
    have hS := hf1.s (c := 3) (by decide) hS
    refine wp_aload_n dX9_pay_26 rfl 0 rfl ?_
    refine wp_getO (q := 3) fX9_19 hR rfl (rfl) (by decide) (by decide) rfl dX9_pay_27 ?_
    refine wp_callI (mm_siteV (av := []) hC lX9_195 (rfl) (by decide) ⟨_, rfl, rfl⟩ rfl rfl (Nat.le_of_ble_eq_true rfl) dX9_pay_30) (c_X7_takePenny l (k + 2) _ _ _ _ _ (qS Q) rfl hS) (by omega) (by decide) ?_
    rintro _ F3 A3 _ _ ⟨rfl, hS, hg3, rfl, rfl⟩
    refine wp_pop dX9_pay_33 rfl ?_
    refine wp_aload_n dX9_pay_34 rfl 0 rfl ?_
    refine wp_getO (q := 3) fX9_19 hR rfl (rfl) (by decide) (by decide) rfl dX9_pay_35 ?_
    refine wp_getI fX9_111 rfl (rfl) (by decide) dX9_pay_38 ?_
    refine wp_top (x' := (payS (qS Q)).2.2 6) (hS.2.2.2.2.2.2) ?_
    exact wp_iret hC rfl rfl dX9_pay_41 (pI_ok (by unfold wPay; rw [if_pos c1]; exact ⟨rfl, (hX1.st hS hg3).1, hfx1.trans (hX1.st hS hg3).2⟩))
  · refine wp_bipush (v := (-3)) dX9_pay_12 (by decide) ?_
    exact wp_iret hC rfl rfl dX9_pay_14 (pI_ok (by unfold wPay; rw [if_neg c1]; exact ⟨rfl, hX, frX.refl F A R G⟩))

set_option maxRecDepth 100000 in
set_option maxHeartbeats 600000 in
theorem c_X9_blow (l : Launch) (k : Nat) (F A : mmF) (R : mmR) (G : mmG) (x : Int32) (Q : QV) (hX : RepX F A R G Q) (hwf : wfQ Q) : Meets l hX9_blow (k + 4) 144 144 [.ref 0, .int x] F A R G (pI (fun v F1 A1 R1 G1 => v = (wBlow Q x).2 ∧ RepX F1 A1 R1 G1 (wBlow Q x).1 ∧ frX F A R G F1 A1 R1 G1)) := by
  refine mm_start rfl (Nat.le_of_ble_eq_true rfl) (fun X hC => ?_)
  show WP hX9_blow X 144 0 [(0, .ref 0), (1, .int x)] [] F A R G
  obtain ⟨b, d, fi, hR, ⟨hRb, hRd, hb, hd, hbd⟩, ⟨hn, ht⟩, hB, hS, ⟨ha1, ha2, hfi, hac⟩, ⟨he, hes⟩, hk, hg⟩ := id hX
  obtain ⟨hw60, hw, hwS, hwA, hwE, hwK⟩ := id hwf
  have hw1 := hw.1
  have hb2 := bo_f hb
  have hd2 := bo_f hd
  refine wp_iload_n dX9_blow_0 rfl 1 rfl ?_
  refine wp_if_lt 9 dX9_blow_1 (by decide) (fun c1 => ?_) (fun c1 => ?_)
  · refine wp_bipush (v := (-2)) dX9_blow_9 (by decide) ?_
    exact wp_iret hC rfl rfl dX9_blow_11 (pI_ok (by unfold wBlow; (first | rw [if_neg c1, if_neg c2] | rw [if_pos c1]); exact ⟨rfl, hX, frX.refl F A R G⟩))
  · refine wp_iload_n dX9_blow_4 rfl 1 rfl ?_
    refine wp_iconst (v := 2) dX9_blow_5 (by decide) ?_
    refine wp_icmp_le 12 dX9_blow_6 (by decide) (fun c2 => ?_) (fun c2 => ?_)
    · refine wp_iload_n dX9_blow_12 rfl 1 rfl ?_
      refine wp_aload_n dX9_blow_13 rfl 0 rfl ?_
      refine wp_getO (q := 3) fX9_19 hR rfl (rfl) (by decide) (by decide) rfl dX9_blow_14 ?_
      refine wp_getI fX9_108 rfl (rfl) (by decide) dX9_blow_17 ?_
      refine wp_top (x' := (qS Q).2.2 5) (hS.2.2.2.2.2.1) ?_
      refine wp_icmp_ne 26 dX9_blow_20 (by decide) (fun c3 => ?_) (fun c3 => ?_)
      · refine wp_aload_n dX9_blow_26 rfl 0 rfl ?_
        refine wp_getO (q := 6) fX9_26 hR rfl (rfl) (by decide) (by decide) rfl dX9_blow_27 ?_
        refine wp_aload_n dX9_blow_30 rfl 0 rfl ?_
        refine wp_getO (q := 3) fX9_19 hR rfl (rfl) (by decide) (by decide) rfl dX9_blow_31 ?_
        refine wp_callV (mm_siteV (av := [.ref 3]) hC lX9_178 (rfl) (by decide) ⟨_, rfl, rfl⟩ rfl rfl (Nat.le_of_ble_eq_true rfl) dX9_blow_34) (c_X0_remember l k _ _ _ _ fi (qA Q).length (qS Q) hR ha1 ha2 hfi hwA.1 hS) (by omega) (by decide) (by decide) ?_
        rintro F1 A1 _ _ ⟨e1, e2, e3, e4, e5, rfl, rfl⟩
        obtain ⟨hX1, hfx1⟩ := hX.rem hwA.1 (F1 := F1) (A1 := A1) (fun fi' h1 h2 => by rw [show fi' = fi from by have h3 := h1.symm.trans ha1; rw [nI_eq (by omega) (by omega)] at h3; exact h3]; exact ⟨e1, e2, e3, e4, e5⟩)
        have hf1 : frI 6 49 F A F1 A1 := remP.I (fi := fi) (cn := (qA Q).length) (S := qS Q) ⟨e1, e2, e3, e4, e5⟩
        have hB := hf1.b (by omega) hB
        have hS := hf1.s (c := 3) (by decide) hS
        refine wp_aload_n dX9_blow_37 rfl 0 rfl ?_
        refine wp_getO (q := 3) fX9_19 hR rfl (rfl) (by decide) (by decide) rfl dX9_blow_38 ?_
        refine wp_getI fX9_108 rfl (rfl) (by decide) dX9_blow_41 ?_
        refine wp_top (x' := (qS Q).2.2 5) (hS.2.2.2.2.2.1) ?_
        refine wp_istore_n [1, 2, 0] (by decide) rfl rfl rfl dX9_blow_44 rfl ?_
        refine wp_aload_n dX9_blow_45 rfl 0 rfl ?_
        refine wp_getO (q := 3) fX9_19 hR rfl (rfl) (by decide) (by decide) rfl dX9_blow_46 ?_
        refine wp_iload_n dX9_blow_49 rfl 1 rfl ?_
        refine wp_putI fX9_108 fn_7_5 rfl (rfl) (by decide) dX9_blow_50 ?_
        obtain ⟨F2, hF2⟩ : ∃ z, z = u2 F1 3 5 x := ⟨_, rfl⟩
        rw [← hF2]
        have hg2 : fr 3 F1 A1 F2 A1 := by rw [hF2]; exact ⟨fun r hr => by simp [u2, va_up, hr], fun _ _ _ => rfl⟩
        have hS : isS F2 A1 3 (windS (qS Q) x) := by rw [hF2]; exact ⟨hS.1, hS.2.1, by simp [u2, va_up, decS, windS, hS.2.2.1], by simp [u2, va_up, decS, windS, hS.2.2.2.1], by simp [u2, va_up, decS, windS, hS.2.2.2.2.1], by simp [u2, va_up, decS, windS, hS.2.2.2.2.2.1], by simp [u2, va_up, decS, windS, hS.2.2.2.2.2.2]⟩
        have hB := hg2.b rfl hb hB
        refine wp_iload_n dX9_blow_53 rfl 2 rfl ?_
        exact wp_iret hC rfl rfl dX9_blow_54 (pI_ok (by unfold wBlow; rw [if_neg c1, if_pos c2, if_neg c3]; exact ⟨rfl, (hX1.st hS hg2).1, hfx1.trans (hX1.st hS hg2).2⟩))
      · refine wp_bipush (v := (-3)) dX9_blow_23 (by decide) ?_
        exact wp_iret hC rfl rfl dX9_blow_25 (pI_ok (by unfold wBlow; rw [if_neg c1, if_pos c2, if_pos c3]; exact ⟨rfl, hX, frX.refl F A R G⟩))
    · refine wp_bipush (v := (-2)) dX9_blow_9 (by decide) ?_
      exact wp_iret hC rfl rfl dX9_blow_11 (pI_ok (by unfold wBlow; (first | rw [if_neg c1, if_neg c2] | rw [if_pos c1]); exact ⟨rfl, hX, frX.refl F A R G⟩))

