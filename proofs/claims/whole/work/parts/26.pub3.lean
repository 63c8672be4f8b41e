set_option maxRecDepth 100000 in
set_option maxHeartbeats 600000 in
theorem c_X9_write (l : Launch) (k : Nat) (F A : mmF) (R : mmR) (G : mmG) (x : Int32) (Q : QV) (hX : RepX F A R G Q) (hwf : wfQ Q) : Meets l hX9_write (k + 1) 144 144 [.ref 0, .int x] F A R G (pI (fun v F1 A1 R1 G1 => v = (wWrite Q x).2 ∧ RepX F1 A1 R1 G1 (wWrite Q x).1 ∧ frX F A R G F1 A1 R1 G1)) := by
  refine mm_start rfl (Nat.le_of_ble_eq_true rfl) (fun X hC => ?_)
  show WP hX9_write X 144 0 [(0, .ref 0), (1, .int x)] [] F A R G
  obtain ⟨b, d, fi, hR, ⟨hRb, hRd, hb, hd, hbd⟩, ⟨hn, ht⟩, hB, hS, ⟨ha1, ha2, hfi, hac⟩, ⟨he, hes⟩, hk, hg⟩ := id hX
  obtain ⟨hw60, hw, hwS, hwA, hwE, hwK⟩ := id hwf
  have hw1 := hw.1
  have hb2 := bo_f hb
  have hd2 := bo_f hd
  refine wp_iload_n dX9_write_0 rfl 1 rfl ?_
  refine wp_if_lt 11 dX9_write_1 (by decide) (fun c1 => ?_) (fun c1 => ?_)
  · refine wp_bipush (v := (-2)) dX9_write_11 (by decide) ?_
    exact wp_iret hC rfl rfl dX9_write_13 (pI_ok (by unfold wWrite; (first | rw [if_pos c1] | rw [if_neg c1, if_pos (Int32.not_le.mp c2)]); exact ⟨rfl, hX, frX.refl _ _ _ _⟩))
  · refine wp_iload_n dX9_write_4 rfl 1 rfl ?_
    refine wp_sipush (v := 255) dX9_write_5 (by decide) ?_
    refine wp_icmp_le 14 dX9_write_8 (by decide) (fun c2 => ?_) (fun c2 => ?_)
    · refine wp_aload_n dX9_write_14 rfl 0 rfl ?_
      refine wp_getO (q := 1) fX9_10 hR rfl (rfl) (by decide) (by decide) rfl dX9_write_15 ?_
      refine wp_iload_n dX9_write_18 rfl 1 rfl ?_
      refine wp_callI (mm_siteV (av := [.int x]) hC lX9_79 (rfl) (by decide) ⟨_, rfl, rfl⟩ rfl rfl (Nat.le_of_ble_eq_true rfl) dX9_write_19) (c_X8_append l k _ _ _ _ x Q.1.1 hR hw60 hn) (by omega) (by decide) ?_
      rintro _ F1 A1 _ _ ⟨rfl, hF1, hA1, rfl, rfl⟩
      refine wp_if_eq 35 dX9_write_22 (by decide) (fun c3 => ?_) (fun c3 => ?_)
      · rw [ite01] at c3; rw [if_neg c3] at hF1 hA1
        refine wp_bipush (v := (-4)) dX9_write_35 (by decide) ?_
        exact wp_iret hC rfl rfl dX9_write_37 (pI_ok (by unfold wWrite; rw [if_neg c1, if_neg (Int32.not_lt.mpr c2), if_neg c3, hF1, hA1]; exact ⟨rfl, hX, frX.refl _ _ _ _⟩))
      · rw [ite01, Classical.not_not] at c3; rw [if_pos c3] at hF1 hA1
        refine wp_aload_n dX9_write_25 rfl 0 rfl ?_
        refine wp_getO (q := 1) fX9_10 hR rfl (rfl) (by decide) (by decide) rfl dX9_write_26 ?_
        refine wp_getI fX9_83 rfl (rfl) (by decide) dX9_write_29 ?_
        refine wp_top (x' := nI (Q.1.1 + 1)) (by rw [hF1]; simp [u2, va_up]) ?_
        refine wp_goto 37 dX9_write_32 (by decide) ?_
        exact wp_iret hC rfl rfl dX9_write_37 (pI_ok (by unfold wWrite; rw [if_neg c1, if_neg (Int32.not_lt.mpr c2), if_pos c3]; exact ⟨rfl, hX.tx (fun r hr => by rw [hF1, hA1]; simp [u2, va_up, show r ≠ 1 by omega, show r ≠ 2 by omega]) (by rw [hF1]; simp [u2, va_up]) (fun i hi => by rw [hA1]; by_cases e : i = Q.1.1 <;> simp [u2, va_up, e]; exact ht i (by omega))⟩))
    · refine wp_bipush (v := (-2)) dX9_write_11 (by decide) ?_
      exact wp_iret hC rfl rfl dX9_write_13 (pI_ok (by unfold wWrite; (first | rw [if_pos c1] | rw [if_neg c1, if_pos (Int32.not_le.mp c2)]); exact ⟨rfl, hX, frX.refl _ _ _ _⟩))

set_option maxRecDepth 100000 in
set_option maxHeartbeats 600000 in
theorem c_X9_wipe (l : Launch) (k : Nat) (F A : mmF) (R : mmR) (G : mmG)  (Q : QV) (hX : RepX F A R G Q) (hwf : wfQ Q) : Meets l hX9_wipe k 144 144 [.ref 0] F A R G (pI (fun v F1 A1 R1 G1 => v = (wWipe Q).2 ∧ RepX F1 A1 R1 G1 (wWipe Q).1 ∧ frX F A R G F1 A1 R1 G1)) := by
  refine mm_start rfl (Nat.le_of_ble_eq_true rfl) (fun X hC => ?_)
  show WP hX9_wipe X 144 0 [(0, .ref 0)] [] F A R G
  obtain ⟨b, d, fi, hR, ⟨hRb, hRd, hb, hd, hbd⟩, ⟨hn, ht⟩, hB, hS, ⟨ha1, ha2, hfi, hac⟩, ⟨he, hes⟩, hk, hg⟩ := id hX
  obtain ⟨hw60, hw, hwS, hwA, hwE, hwK⟩ := id hwf
  have hw1 := hw.1
  have hb2 := bo_f hb
  have hd2 := bo_f hd
  refine wp_aload_n dX9_wipe_0 rfl 0 rfl ?_
  refine wp_getO (q := 1) fX9_10 hR rfl (rfl) (by decide) (by decide) rfl dX9_wipe_1 ?_
  refine wp_getI fX9_83 rfl (rfl) (by decide) dX9_wipe_4 ?_
  refine wp_top (x' := nI Q.1.1) (hn) ?_
  refine wp_istore_n [1, 0] (by decide) rfl rfl rfl dX9_wipe_7 rfl ?_
  refine wp_aload_n dX9_wipe_8 rfl 0 rfl ?_
  refine wp_getO (q := 1) fX9_10 hR rfl (rfl) (by decide) (by decide) rfl dX9_wipe_9 ?_
  refine wp_iconst (v := 0) dX9_wipe_12 (by decide) ?_
  refine wp_putI fX9_83 fn_8_1 rfl (rfl) (by decide) dX9_wipe_13 ?_
  refine wp_iload_n dX9_wipe_16 rfl 1 rfl ?_
  exact wp_iret hC rfl rfl dX9_wipe_17 (pI_ok (by exact ⟨rfl, hX.tx (tx := Q.1.2) (n := 0) (fun r hr => by simp [u2, va_up, show r ≠ 1 by omega]) (by simp [u2, va_up]; rfl) (fun i hi => absurd hi (Nat.not_lt_zero _))⟩))

set_option maxRecDepth 100000 in
set_option maxHeartbeats 600000 in
theorem c_X9_unsee (l : Launch) (k : Nat) (F A : mmF) (R : mmR) (G : mmG)  (Q : QV) (hX : RepX F A R G Q) (hwf : wfQ Q) : Meets l hX9_unsee k 144 144 [.ref 0] F A R G (pI (fun v F1 A1 R1 G1 => v = (wUnsee Q).2 ∧ RepX F1 A1 R1 G1 (wUnsee Q).1 ∧ frX F A R G F1 A1 R1 G1)) := by
  refine mm_start rfl (Nat.le_of_ble_eq_true rfl) (fun X hC => ?_)
  show WP hX9_unsee X 144 0 [(0, .ref 0)] [] F A R G
  obtain ⟨b, d, fi, hR, ⟨hRb, hRd, hb, hd, hbd⟩, ⟨hn, ht⟩, hB, hS, ⟨ha1, ha2, hfi, hac⟩, ⟨he, hes⟩, hk, hg⟩ := id hX
  obtain ⟨hw60, hw, hwS, hwA, hwE, hwK⟩ := id hwf
  have hw1 := hw.1
  have hb2 := bo_f hb
  have hd2 := bo_f hd
  refine wp_aload_n dX9_unsee_0 rfl 0 rfl ?_
  refine wp_getO (q := 50) fX9_33 hR rfl (rfl) (by decide) (by decide) rfl dX9_unsee_1 ?_
  refine wp_getI fX9_120 rfl (rfl) (by decide) dX9_unsee_4 ?_
  refine wp_top (x' := nI (qE Q).1) (he) ?_
  refine wp_istore_n [1, 0] (by decide) rfl rfl rfl dX9_unsee_7 rfl ?_
  refine wp_aload_n dX9_unsee_8 rfl 0 rfl ?_
  refine wp_getO (q := 50) fX9_33 hR rfl (rfl) (by decide) (by decide) rfl dX9_unsee_9 ?_
  refine wp_iconst (v := 0) dX9_unsee_12 (by decide) ?_
  refine wp_putI fX9_120 fn_5_3 rfl (rfl) (by decide) dX9_unsee_13 ?_
  refine wp_iload_n dX9_unsee_16 rfl 1 rfl ?_
  exact wp_iret hC rfl rfl dX9_unsee_17 (pI_ok (by exact ⟨rfl, hX.see (sr := (qE Q).2) (n := 0) (fun r hr => by simp [u2, va_up, show r ≠ 50 by omega]) (by simp [u2, va_up]; rfl) (fun i hi => absurd hi (Nat.not_lt_zero _))⟩))

set_option maxRecDepth 100000 in
set_option maxHeartbeats 600000 in
theorem c_X9_fault (l : Launch) (k : Nat) (F A : mmF) (R : mmR) (G : mmG)  (Q : QV) (hX : RepX F A R G Q) (hwf : wfQ Q) : Meets l hX9_fault (k + 5) 144 144 [.ref 0] F A R G (pI (fun v F1 A1 R1 G1 => v = wFault Q ∧ RepX F1 A1 R1 G1 Q ∧ frX F A R G F1 A1 R1 G1)) := by
  refine mm_start rfl (Nat.le_of_ble_eq_true rfl) (fun X hC => ?_)
  show WP hX9_fault X 144 0 [(0, .ref 0)] [] F A R G
  obtain ⟨b, d, fi, hR, ⟨hRb, hRd, hb, hd, hbd⟩, ⟨hn, ht⟩, hB, hS, ⟨ha1, ha2, hfi, hac⟩, ⟨he, hes⟩, hk, hg⟩ := id hX
  obtain ⟨hw60, hw, hwS, hwA, hwE, hwK⟩ := id hwf
  have hw1 := hw.1
  have hb2 := bo_f hb
  have hd2 := bo_f hd
  refine wp_aload_n dX9_fault_0 rfl 0 rfl ?_
  refine wp_getR (q := d) fX9_72 rfl (rfl) (by decide) (hRd) dX9_fault_1 ?_
  refine wp_aload_n dX9_fault_4 rfl 0 rfl ?_
  refine wp_getO (q := 1) fX9_10 hR rfl (rfl) (by decide) (by decide) rfl dX9_fault_5 ?_
  refine wp_callI (mm_siteV (av := [.ref 1]) hC lX9_87 (hd) (bo_l0 hd) ⟨_, rfl, rfl⟩ rfl rfl (Nat.le_of_ble_eq_true rfl) dX9_fault_8) (c_X1_readFrom l k _ _ _ _ d Q.1.1 Q.1.2 hR hd hw60 hn ht) (by omega) (by decide) ?_
  rintro _ F1 A1 _ _ ⟨rfl, hg1, hrd, rfl, rfl⟩
  exact wp_iret hC rfl rfl dX9_fault_11 (pI_ok ⟨rfl, hX.dr hRd hg1⟩)

set_option maxRecDepth 100000 in
set_option maxHeartbeats 600000 in
theorem c_X9_fair (l : Launch) (k : Nat) (F A : mmF) (R : mmR) (G : mmG)  (Q : QV) (hX : RepX F A R G Q) (hwf : wfQ Q) : Meets l hX9_fair (k + 5) 144 144 [.ref 0] F A R G (pI (fun v F1 A1 R1 G1 => v = (wFair Q).2 ∧ RepX F1 A1 R1 G1 (wFair Q).1 ∧ frX F A R G F1 A1 R1 G1)) := by
  refine mm_start rfl (Nat.le_of_ble_eq_true rfl) (fun X hC => ?_)
  show WP hX9_fair X 144 0 [(0, .ref 0)] [] F A R G
  obtain ⟨b, d, fi, hR, ⟨hRb, hRd, hb, hd, hbd⟩, ⟨hn, ht⟩, hB, hS, ⟨ha1, ha2, hfi, hac⟩, ⟨he, hes⟩, hk, hg⟩ := id hX
  obtain ⟨hw60, hw, hwS, hwA, hwE, hwK⟩ := id hwf
  have hw1 := hw.1
  have hb2 := bo_f hb
  have hd2 := bo_f hd
  refine wp_aload_n dX9_fair_0 rfl 0 rfl ?_
  refine wp_getR (q := d) fX9_72 rfl (rfl) (by decide) (hRd) dX9_fair_1 ?_
  refine wp_aload_n dX9_fair_4 rfl 0 rfl ?_
  refine wp_getO (q := 1) fX9_10 hR rfl (rfl) (by decide) (by decide) rfl dX9_fair_5 ?_
  refine wp_callI (mm_siteV (av := [.ref 1]) hC lX9_87 (hd) (bo_l0 hd) ⟨_, rfl, rfl⟩ rfl rfl (Nat.le_of_ble_eq_true rfl) dX9_fair_8) (c_X1_readFrom l k _ _ _ _ d Q.1.1 Q.1.2 hR hd hw60 hn ht) (by omega) (by decide) ?_
  rintro _ F1 A1 _ _ ⟨rfl, hg1, hrd, rfl, rfl⟩
  refine wp_bipush (v := (-9)) dX9_fair_11 (by decide) ?_
  refine wp_icmp_eq 19 dX9_fair_13 (by decide) (fun c1 => ?_) (fun c1 => ?_)
  · obtain ⟨hBd, hW, hV⟩ := hrd c1
    have hwd := wfB_read Q.1.2 Q.1.1
    refine wp_aload_n dX9_fair_19 rfl 0 rfl ?_
    refine wp_getR (q := b) fX9_68 rfl (rfl) (by decide) (hRb) dX9_fair_20 ?_
    refine wp_astore_n [1, 0] (by decide) rfl rfl rfl dX9_fair_23 rfl ?_
    refine wp_aload_n dX9_fair_24 rfl 0 rfl ?_
    refine wp_aload_n dX9_fair_25 rfl 0 rfl ?_
    refine wp_getR (q := d) fX9_72 rfl (rfl) (by decide) (hRd) dX9_fair_26 ?_
    refine wp_putR fX9_68 fn_9_8 rfl (rfl) (by decide) dX9_fair_29 ?_
    refine wp_aload_n dX9_fair_32 rfl 0 rfl ?_
    refine wp_aload_n dX9_fair_33 rfl 1 rfl ?_
    refine wp_putR fX9_72 fn_9_9 rfl (rfl) (by decide) dX9_fair_34 ?_
    obtain ⟨R2, hR2⟩ : ∃ z, z = u2 (u2 R 0 8 (some d)) 0 9 (some b) := ⟨_, rfl⟩
    rw [← hR2]
    have hRb2 : R2 0 8 = some d := by rw [hR2]; simp [u2, va_up]
    have hRL2 : mm_RL R2 := by rw [hR2]; exact RL_upd hR
    refine wp_aload_n dX9_fair_37 rfl 0 rfl ?_
    refine wp_getO (q := 3) fX9_19 hRL2 rfl (rfl) (by decide) (by decide) rfl dX9_fair_38 ?_
    refine wp_aload_n dX9_fair_41 rfl 0 rfl ?_
    refine wp_getR (q := d) fX9_68 rfl (rfl) (by decide) (hRb2) dX9_fair_42 ?_
    refine wp_callV (mm_siteV (av := [.ref d]) hC lX9_91 (rfl) (by decide) ⟨_, rfl, rfl⟩ rfl rfl (Nat.le_of_ble_eq_true rfl) dX9_fair_45) (c_X7_makeAnew l (k + 4) _ _ _ _ d (readP Q.1.2 Q.1.1).1 _ _ hRL2 hd hBd hwd hW hV) (by omega) (by decide) (by decide) ?_
    rintro F2 A2 R2 _ ⟨hS2, hg2, rfl, rfl⟩
    have hBd := hg2.b rfl hd hBd
    refine wp_aload_n dX9_fair_48 rfl 0 rfl ?_
    refine wp_getO (q := 6) fX9_26 hRL2 rfl (rfl) (by decide) (by decide) rfl dX9_fair_49 ?_
    refine wp_callV (mm_siteV (av := []) hC lX9_95 (rfl) (by decide) ⟨_, rfl, rfl⟩ rfl rfl (Nat.le_of_ble_eq_true rfl) dX9_fair_52) (c_X0_forgetAll l (k + 4) _ _ _ _) (by omega) (by decide) (by decide) ?_
    rintro F3 _ R2 _ ⟨hF3, rfl, rfl, rfl⟩
    refine wp_aload_n dX9_fair_55 rfl 0 rfl ?_
    refine wp_getO (q := 54) fX9_40 hRL2 rfl (rfl) (by decide) (by decide) rfl dX9_fair_56 ?_
    refine wp_callV (mm_siteV (av := []) hC lX9_98 (rfl) (by decide) ⟨_, rfl, rfl⟩ rfl rfl (Nat.le_of_ble_eq_true rfl) dX9_fair_59) (c_X6_forgetAll l (k + 4) _ _ _ _ hRL2) (by omega) (by decide) (by decide) ?_
    rintro F3 A4 R2 _ ⟨rfl, h620, h621, hA4, rfl, rfl⟩
    have hBd : isB F3 A4 d (readP Q.1.2 Q.1.1).1 := isB_cong (by rw [hF3]; simp [u2, va_up, show d ≠ 6 by omega]) (fun j h1 h2 => hA4 (d + j) (by omega)) hBd
    have hS4 : isS F3 A4 3 _ := isS_cong (by rw [hF3]; simp [u2, va_up]) (hA4 4 (by decide)) (hA4 5 (by decide)) hS2
    refine wp_bipush (v := 100) dX9_fair_62 (by decide) ?_
    refine wp_aload_n dX9_fair_64 rfl 0 rfl ?_
    refine wp_getR (q := d) fX9_68 rfl (rfl) (by decide) (hRb2) dX9_fair_65 ?_
    refine wp_getI fX9_99 rfl (hd) (bo_l0 hd) dX9_fair_68 ?_
    refine wp_top (x' := nI (readP Q.1.2 Q.1.1).1.1.1) (hBd.1.1) ?_
    refine wp_imul dX9_fair_71 ?_
    refine wp_bipush (v := 10) dX9_fair_72 (by decide) ?_
    refine wp_aload_n dX9_fair_74 rfl 0 rfl ?_
    refine wp_getR (q := d) fX9_68 rfl (rfl) (by decide) (hRb2) dX9_fair_75 ?_
    refine wp_getI fX9_102 rfl (hd) (bo_l0 hd) dX9_fair_78 ?_
    refine wp_top (x' := nI (readP Q.1.2 Q.1.1).1.1.2.1) (hBd.1.2.1) ?_
    refine wp_imul dX9_fair_81 ?_
    refine wp_iadd dX9_fair_82 ?_
    refine wp_aload_n dX9_fair_83 rfl 0 rfl ?_
    refine wp_getR (q := d) fX9_68 rfl (rfl) (by decide) (hRb2) dX9_fair_84 ?_
    refine wp_getI fX9_105 rfl (hd) (bo_l0 hd) dX9_fair_87 ?_
    refine wp_top (x' := nI (readP Q.1.2 Q.1.1).1.1.2.2) (hBd.1.2.2) ?_
    refine wp_iadd dX9_fair_90 ?_
    exact wp_iret hC rfl rfl dX9_fair_91 (pI_ok (by
    unfold wFair; rw [if_pos c1]
    refine ⟨rfl, hX.fair hRb hRd hR2 (fun r h1 h2 => ⟨?_, ?_⟩) (fun r h1 h2 => ⟨?_, ?_⟩) hBd hS4 ⟨by rw [hF3]; simp [u2, va_up], by rw [hF3]; simp [u2, va_up]⟩ ⟨h620, h621⟩⟩
    · rw [hF3]; simp only [u2, va_up, show ¬ r = 6 by omega, if_false]; rw [hg2.1 r (by omega), hg1.1 r (by omega)]
    · rw [hA4 r (by omega), hg2.2 r (by omega) (by omega), hg1.2 r (by omega)]
    · rw [hF3]; simp only [u2, va_up, show ¬ r = 6 by omega, if_false]; rw [hg2.1 r (by omega), hg1.1 r (by omega)]
    · rw [hA4 r (by omega), hg2.2 r (by omega) (by omega), hg1.2 r (by omega)]))
  · refine wp_bipush (v := (-3)) dX9_fair_16 (by decide) ?_
    exact wp_iret hC rfl rfl dX9_fair_18 (pI_ok (by unfold wFair; rw [if_neg c1]; exact ⟨rfl, hX.dr hRd hg1⟩))

set_option maxRecDepth 100000 in
set_option maxHeartbeats 600000 in
theorem c_X9_undo (l : Launch) (k : Nat) (F A : mmF) (R : mmR) (G : mmG)  (Q : QV) (hX : RepX F A R G Q) (hwf : wfQ Q) : Meets l hX9_undo (k + 4) 144 144 [.ref 0] F A R G (pI (fun v F1 A1 R1 G1 => v = (wUndo Q).2 ∧ RepX F1 A1 R1 G1 (wUndo Q).1 ∧ frX F A R G F1 A1 R1 G1)) := by
  refine mm_start rfl (Nat.le_of_ble_eq_true rfl) (fun X hC => ?_)
  show WP hX9_undo X 144 0 [(0, .ref 0)] [] F A R G
  obtain ⟨b, d, fi, hR, ⟨hRb, hRd, hb, hd, hbd⟩, ⟨hn, ht⟩, hB, hS, ⟨ha1, ha2, hfi, hac⟩, ⟨he, hes⟩, hk, hg⟩ := id hX
  obtain ⟨hw60, hw, hwS, hwA, hwE, hwK⟩ := id hwf
  have hw1 := hw.1
  have hb2 := bo_f hb
  have hd2 := bo_f hd
  refine wp_aload_n dX9_undo_0 rfl 0 rfl ?_
  refine wp_getO (q := 6) fX9_26 hR rfl (rfl) (by decide) (by decide) rfl dX9_undo_1 ?_
  refine wp_aload_n dX9_undo_4 rfl 0 rfl ?_
  refine wp_getO (q := 3) fX9_19 hR rfl (rfl) (by decide) (by decide) rfl dX9_undo_5 ?_
  refine wp_callI (mm_siteV (av := [.ref 3]) hC lX9_199 (rfl) (by decide) ⟨_, rfl, rfl⟩ rfl rfl (Nat.le_of_ble_eq_true rfl) dX9_undo_8) (c_X0_takeBack l k _ _ _ _ fi (qA Q).length ((qA Q)[(qA Q).length - 1]?.getD (qS Q)) hR ha1 ha2 hfi hwA.1 (fun h0 => hac _ _ (by rw [List.getElem?_eq_getElem (by omega)]; rfl))) (by omega) (by decide) ?_
  rintro _ F1 A1 _ _ ⟨⟨e0, rfl, rfl, rfl⟩ | ⟨e0, rfl, hS1, e1, e2, e3, e4⟩, rfl, rfl⟩
  · refine wp_if_eq 24 dX9_undo_11 (by decide) (fun c1 => ?_) (fun c1 => ?_)
    · refine wp_bipush (v := (-3)) dX9_undo_24 (by decide) ?_
      exact wp_iret hC rfl rfl dX9_undo_26 (pI_ok (by unfold wUndo; rw [if_pos e0]; exact ⟨rfl, hX, frX.refl _ _ _ _⟩))
    · exact absurd rfl c1
  · refine wp_if_eq 24 dX9_undo_11 (by decide) (fun c2 => ?_) (fun c2 => ?_)
    · exact absurd c2 (by decide)
    · refine wp_aload_n dX9_undo_14 rfl 0 rfl ?_
      refine wp_getO (q := 6) fX9_26 hR rfl (rfl) (by decide) (by decide) rfl dX9_undo_15 ?_
      refine wp_getI fX9_117 rfl (rfl) (by decide) dX9_undo_18 ?_
      refine wp_top (x' := nI ((qA Q).length - 1)) (e2) ?_
      refine wp_goto 26 dX9_undo_21 (by decide) ?_
      exact wp_iret hC rfl rfl dX9_undo_26 (pI_ok (by
    unfold wUndo; rw [if_neg (by omega)]
    refine ⟨rfl, hX.ac (fi' := fi) (fun r hr => ⟨e3 r (by omega) (by omega), e4 r (by omega) (by omega)⟩) hS1 ⟨e1, by rw [e2, List.length_dropLast], hfi, fun i S hi => ?_⟩⟩
    have hl := (List.getElem?_eq_some_iff.mp hi).1
    rw [List.length_dropLast] at hl
    rw [List.getElem?_dropLast, if_pos (by omega)] at hi
    exact isS_cong (e3 _ (by omega) (by omega)) (e4 _ (by omega) (by omega)) (e4 _ (by omega) (by omega)) (hac i S hi)))

set_option maxRecDepth 100000 in
set_option maxHeartbeats 600000 in
theorem c_X9_felled (l : Launch) (k : Nat) (F A : mmF) (R : mmR) (G : mmG) (t pl lk : Int32) (Q : QV) (hX : RepX F A R G Q) (hwf : wfQ Q) : Meets l hX9_felled (k + 13) 144 144 [.ref 0, .int t, .int pl, .int lk] F A R G (pI (fun v F1 A1 R1 G1 => v = wFelled Q t pl lk ∧ RepX F1 A1 R1 G1 Q ∧ frX F A R G F1 A1 R1 G1)) := by
  refine mm_start rfl (Nat.le_of_ble_eq_true rfl) (fun X hC => ?_)
  show WP hX9_felled X 144 0 [(0, .ref 0), (1, .int t), (2, .int pl), (3, .int lk)] [] F A R G
  obtain ⟨b, d, fi, hR, ⟨hRb, hRd, hb, hd, hbd⟩, ⟨hn, ht⟩, hB, hS, ⟨ha1, ha2, hfi, hac⟩, ⟨he, hes⟩, hk, hg⟩ := id hX
  obtain ⟨hw60, hw, hwS, hwA, hwE, hwK⟩ := id hwf
  have hw1 := hw.1
  have hb2 := bo_f hb
  have hd2 := bo_f hd
  refine wp_aload_n dX9_felled_0 rfl 0 rfl ?_
  refine wp_iload_n dX9_felled_1 rfl 1 rfl ?_
  refine wp_iload_n dX9_felled_2 rfl 2 rfl ?_
  refine wp_iload_n dX9_felled_3 rfl 3 rfl ?_
  refine wp_callP (e := noTh Q t pl lk) (mm_siteV (av := [.int t, .int pl, .int lk]) hC lX9_170 (rfl) (by decide) ⟨_, rfl, rfl⟩ rfl rfl (Nat.le_of_ble_eq_true rfl) dX9_felled_4) (c_X9_refusalOfThrow l (k + 11) _ _ _ _ _ _ _ Q hX hwf) (by omega) (by decide) ?_
  refine wp_istore [1, 2, 3, 4, 0] (by decide) rfl rfl rfl dX9_felled_7 ?_
  refine wp_iload dX9_felled_9 4 rfl ?_
  refine wp_bipush (v := (-9)) dX9_felled_11 (by decide) ?_
  refine wp_icmp_eq 21 dX9_felled_13 (by decide) (fun c1 => ?_) (fun c1 => ?_)
  · obtain ⟨⟨t, htn, rfl⟩, ⟨pp, hpp, hpe⟩, qq, hqq, hqe⟩ := noTh_nat hw c1
    refine wp_aload_n dX9_felled_21 rfl 0 rfl ?_
    refine wp_getO (q := 63) fX9_47 hR rfl (rfl) (by decide) (by decide) rfl dX9_felled_22 ?_
    refine wp_aload_n dX9_felled_25 rfl 0 rfl ?_
    refine wp_getR (q := b) fX9_68 rfl (rfl) (by decide) (hRb) dX9_felled_26 ?_
    refine wp_aload_n dX9_felled_29 rfl 0 rfl ?_
    refine wp_getO (q := 3) fX9_19 hR rfl (rfl) (by decide) (by decide) rfl dX9_felled_30 ?_
    refine wp_iload_n dX9_felled_33 rfl 1 rfl ?_
    refine wp_iload_n dX9_felled_34 rfl 2 rfl ?_
    refine wp_iload_n dX9_felled_35 rfl 3 rfl ?_
    refine wp_callI (mm_siteV (av := [.ref b, .ref 3, .int (nI t), .int pl, .int lk]) hC lX9_203 (rfl) (by decide) ⟨_, rfl, rfl⟩ rfl rfl (Nat.le_of_ble_eq_true rfl) dX9_felled_36) (c_X4_downBehind l k _ _ _ _ b t pl lk (qS Q) (qB Q) hR hb hS hB hw htn) (by omega) (by decide) ?_
    rintro _ F1 A1 _ _ ⟨rfl, hg1, rfl, rfl⟩
    exact wp_iret hC rfl rfl dX9_felled_39 (pI_ok (by unfold wFelled; rw [if_pos c1, nI_clamp (by omega)]; exact ⟨rfl, hX.scr (hg1.wide (by decide) (by decide))⟩))
  · refine wp_iload dX9_felled_16 4 rfl ?_
    refine wp_goto 39 dX9_felled_18 (by decide) ?_
    exact wp_iret hC rfl rfl dX9_felled_39 (pI_ok (by unfold wFelled; rw [if_neg c1]; exact ⟨rfl, hX, frX.refl _ _ _ _⟩))

set_option maxRecDepth 100000 in
set_option maxHeartbeats 600000 in
theorem c_X9_fewest (l : Launch) (k : Nat) (F A : mmF) (R : mmR) (G : mmG) (x row : Int32) (Q : QV) (hX : RepX F A R G Q) (hwf : wfQ Q) : Meets l hX9_fewest (k + 16) 144 144 [.ref 0, .int x, .int row] F A R G (pI (fun v F1 A1 R1 G1 => v = wFewest Q x row ∧ RepX F1 A1 R1 G1 Q ∧ frX F A R G F1 A1 R1 G1)) := by
  refine mm_start rfl (Nat.le_of_ble_eq_true rfl) (fun X hC => ?_)
  show WP hX9_fewest X 144 0 [(0, .ref 0), (1, .int x), (2, .int row)] [] F A R G
  obtain ⟨b, d, fi, hR, ⟨hRb, hRd, hb, hd, hbd⟩, ⟨hn, ht⟩, hB, hS, ⟨ha1, ha2, hfi, hac⟩, ⟨he, hes⟩, hk, hg⟩ := id hX
  obtain ⟨hw60, hw, hwS, hwA, hwE, hwK⟩ := id hwf
  have hw1 := hw.1
  have hb2 := bo_f hb
  have hd2 := bo_f hd
  refine wp_aload_n dX9_fewest_0 rfl 0 rfl ?_
  refine wp_getR (q := b) fX9_68 rfl (rfl) (by decide) (hRb) dX9_fewest_1 ?_
  refine wp_iload_n dX9_fewest_4 rfl 1 rfl ?_
  refine wp_callP (e := isIn x (nI (qB Q).1.1)) (mm_siteV (av := [.int x]) hC lX9_121 (hb) (bo_l0 hb) ⟨_, rfl, rfl⟩ rfl rfl (Nat.le_of_ble_eq_true rfl) dX9_fewest_5) (cB_isHusk l (k + 15) _ _ _ _ _ _ (qB Q) hb hB) (by omega) (by decide) ?_
  refine wp_if_ne 13 dX9_fewest_8 (by decide) (fun c1 => ?_) (fun c1 => ?_)
  · obtain ⟨h, hh, rfl⟩ := isIn_nat (by omega) c1
    refine wp_iconst (v := 0) dX9_fewest_13 (by decide) ?_
    refine wp_istore_n [1, 2, 3, 0] (by decide) rfl rfl rfl dX9_fewest_14 rfl ?_
    have lp : ∀ (nn : Nat) (i : Nat) (F1 A1 : mmF), (i ≤ 4) → (fewP (qB Q) (qS Q) h row 0 4 = fewP (qB Q) (qS Q) h row i (4 - i)) → (frI 65 79 F A F1 A1) → 4 - i < nn → WP hX9_fewest X 144 15 [(0, .ref 0), (1, .int (nI h)), (2, .int row), (3, .int (nI i))] [] F1 A1 R G := by
      intro nn
      induction nn with
      | zero => intro i F1 A1 _ _ _ hm; exact absurd hm (Nat.not_lt_zero _)
      | succ nn ih_lp =>
        intro i F1 A1 hi hv hf hm_lp
        have hB := hf.b (by omega) hB
        have hS := hf.s (c := 3) (by decide) hS
        refine wp_iload_n dX9_fewest_15 rfl 3 rfl ?_
        refine wp_iconst (v := 3) dX9_fewest_16 (by decide) ?_
        refine wp_icmp_gt 63 dX9_fewest_17 (by decide) (fun c2 => ?_) (fun c2 => ?_)
        · replace c2 := (ix_lt (a := 3) (b := i) (rfl) (rfl) (by omega) (by omega)).mp c2
          refine wp_bipush (v := (-9)) dX9_fewest_63 (by decide) ?_
          exact wp_iret hC rfl rfl dX9_fewest_65 (pI_ok (by unfold wFewest; rw [if_neg c1, nI_clamp (by omega), hv, show 4 - i = 0 by omega]; exact ⟨rfl, hX.scr (hf.wide (by decide) (by decide))⟩))
        · replace c2 := mt (ix_lt (a := 3) (b := i) (rfl) (rfl) (by omega) (by omega)).mpr c2
          refine wp_aload_n dX9_fewest_20 rfl 0 rfl ?_
          refine wp_getO (q := 63) fX9_47 hR rfl (rfl) (by decide) (by decide) rfl dX9_fewest_21 ?_
          refine wp_aload_n dX9_fewest_24 rfl 0 rfl ?_
          refine wp_getR (q := b) fX9_68 rfl (rfl) (by decide) (hRb) dX9_fewest_25 ?_
          refine wp_aload_n dX9_fewest_28 rfl 0 rfl ?_
          refine wp_getO (q := 3) fX9_19 hR rfl (rfl) (by decide) (by decide) rfl dX9_fewest_29 ?_
          refine wp_iload_n dX9_fewest_32 rfl 1 rfl ?_
          refine wp_iload_n dX9_fewest_33 rfl 3 rfl ?_
          refine wp_callI (mm_siteV (av := [.ref b, .ref 3, .int (nI h), .int (nI i)]) hC lX9_207 (rfl) (by decide) ⟨_, rfl, rfl⟩ rfl rfl (Nat.le_of_ble_eq_true rfl) dX9_fewest_34) (c_X4_firstRow l k _ _ _ _ b h i (qS Q) (qB Q) hR hb hS hB hw hh (by omega)) (by omega) (by decide) ?_
          rintro _ F2 A2 _ _ ⟨rfl, hg2, rfl, rfl⟩
          refine wp_istore [1, 2, 3, 4, 0] (by decide) rfl rfl rfl dX9_fewest_37 ?_
          refine wp_iload dX9_fewest_39 4 rfl ?_
          refine wp_bipush (v := (-9)) dX9_fewest_41 (by decide) ?_
          refine wp_icmp_eq 57 dX9_fewest_43 (by decide) (fun c3 => ?_) (fun c3 => ?_)
          · refine wp_iinc (v := nI (i + 1)) 3 rfl (by exact nI_1 i) [1, 2, 3, 0, 5] (by decide) rfl rfl rfl dX9_fewest_57 ?_
            refine wp_goto 15 dX9_fewest_60 (by decide) ?_
            refine wp_lv [0, 1, 2, 3] rfl ?_
            exact ih_lp (i + 1) F2 A2 (by omega) (by rw [hv, show 4 - i = 4 - (i + 1) + 1 by omega, fewP, if_pos c3]) (hf.trans hg2) (by omega)
          · refine wp_iload_n dX9_fewest_46 rfl 2 rfl ?_
            refine wp_if_eq 55 dX9_fewest_47 (by decide) (fun c4 => ?_) (fun c4 => ?_)
            · refine wp_iload_n dX9_fewest_55 rfl 3 rfl ?_
              exact wp_iret hC rfl rfl dX9_fewest_56 (pI_ok (by unfold wFewest; rw [if_neg c1, nI_clamp (by omega), hv, show 4 - i = 4 - (i + 1) + 1 by omega, fewP, if_neg c3, if_pos c4]; exact ⟨rfl, hX.scr ((hf.trans hg2).wide (by decide) (by decide))⟩))
            · refine wp_iload dX9_fewest_50 4 rfl ?_
              refine wp_goto 56 dX9_fewest_52 (by decide) ?_
              exact wp_iret hC rfl rfl dX9_fewest_56 (pI_ok (by unfold wFewest; rw [if_neg c1, nI_clamp (by omega), hv, show 4 - i = 4 - (i + 1) + 1 by omega, fewP, if_neg c3, if_neg c4]; exact ⟨rfl, hX.scr ((hf.trans hg2).wide (by decide) (by decide))⟩))
    exact lp (4 + 1) 0 F A (by decide) rfl (frI.refl _ _ F A) (by omega)
  · refine wp_iconst (v := (-1)) dX9_fewest_11 (by decide) ?_
    exact wp_iret hC rfl rfl dX9_fewest_12 (pI_ok (by unfold wFewest; rw [if_pos c1]; exact ⟨rfl, hX, frX.refl _ _ _ _⟩))

set_option maxRecDepth 100000 in
set_option maxHeartbeats 600000 in
theorem c_X9_winds (l : Launch) (k : Nat) (F A : mmF) (R : mmR) (G : mmG) (x y : Int32) (Q : QV) (hX : RepX F A R G Q) (hwf : wfQ Q) : Meets l hX9_winds (k + 2) 144 144 [.ref 0, .int x, .int y] F A R G (pP (wWinds Q x y) F A R G) := by
  refine mm_start rfl (Nat.le_of_ble_eq_true rfl) (fun X hC => ?_)
  show WP hX9_winds X 144 0 [(0, .ref 0), (1, .int x), (2, .int y)] [] F A R G
  obtain ⟨b, d, fi, hR, ⟨hRb, hRd, hb, hd, hbd⟩, ⟨hn, ht⟩, hB, hS, ⟨ha1, ha2, hfi, hac⟩, ⟨he, hes⟩, hk, hg⟩ := id hX
  obtain ⟨hw60, hw, hwS, hwA, hwE, hwK⟩ := id hwf
  have hw1 := hw.1
  have hb2 := bo_f hb
  have hd2 := bo_f hd
  refine wp_aload_n dX9_winds_0 rfl 0 rfl ?_
  refine wp_getR (q := b) fX9_68 rfl (rfl) (by decide) (hRb) dX9_winds_1 ?_
  refine wp_iload_n dX9_winds_4 rfl 1 rfl ?_
  refine wp_callP (e := isIn x (nI (qB Q).1.2.1)) (mm_siteV (av := [.int x]) hC lX9_154 (hb) (bo_l0 hb) ⟨_, rfl, rfl⟩ rfl rfl (Nat.le_of_ble_eq_true rfl) dX9_winds_5) (cB_isThrower l (k + 1) _ _ _ _ _ _ (qB Q) hb hB) (by omega) (by decide) ?_
  refine wp_if_eq 22 dX9_winds_8 (by decide) (fun c1 => ?_) (fun c1 => ?_)
  · refine wp_iconst (v := (-1)) dX9_winds_22 (by decide) ?_
    exact wp_iret hC rfl rfl dX9_winds_23 (pP_ok (by unfold wWinds; (first | rw [if_pos c1] | rw [if_neg c1, if_pos c2])))
  · obtain ⟨t, htn, rfl⟩ := isIn_nat (by omega) c1
    refine wp_aload_n dX9_winds_11 rfl 0 rfl ?_
    refine wp_getR (q := b) fX9_68 rfl (rfl) (by decide) (hRb) dX9_winds_12 ?_
    refine wp_iload_n dX9_winds_15 rfl 2 rfl ?_
    refine wp_callP (e := isIn y (nI (qB Q).1.1)) (mm_siteV (av := [.int y]) hC lX9_121 (hb) (bo_l0 hb) ⟨_, rfl, rfl⟩ rfl rfl (Nat.le_of_ble_eq_true rfl) dX9_winds_16) (cB_isHusk l (k + 1) _ _ _ _ _ _ (qB Q) hb hB) (by omega) (by decide) ?_
    refine wp_if_ne 24 dX9_winds_19 (by decide) (fun c2 => ?_) (fun c2 => ?_)
    · obtain ⟨h, hh, rfl⟩ := isIn_nat (by omega) c2
      refine wp_aload_n dX9_winds_24 rfl 0 rfl ?_
      refine wp_getO (q := 3) fX9_19 hR rfl (rfl) (by decide) (by decide) rfl dX9_winds_25 ?_
      refine wp_iload_n dX9_winds_28 rfl 2 rfl ?_
      refine wp_callP (e := upP ((qS Q).2.2 2) (nI h)) (mm_siteV (av := [.int (nI h)]) hC lX9_186 (rfl) (by decide) ⟨_, rfl, rfl⟩ rfl rfl (Nat.le_of_ble_eq_true rfl) dX9_winds_29) (cS_isUp l k _ _ _ _ _ _ (qS Q) rfl hS) (by omega) (by decide) ?_
      refine wp_if_ne 37 dX9_winds_32 (by decide) (fun c3 => ?_) (fun c3 => ?_)
      · rw [upP_eq, Classical.not_not] at c3
        refine wp_iconst (v := 0) dX9_winds_37 (by decide) ?_
        refine wp_istore_n [1, 2, 3, 0] (by decide) rfl rfl rfl dX9_winds_38 rfl ?_
        refine wp_iconst (v := 0) dX9_winds_39 (by decide) ?_
        refine wp_istore [1, 2, 3, 4, 0] (by decide) rfl rfl rfl dX9_winds_40 ?_
        have lp : ∀ (nn : Nat) (i : Nat) (q : Int32), (i ≤ 3) → (windP (qB Q) t h = (List.range' i (3 - i)).foldl (fun q w => if reachP ((qB Q).2 1 h) ((qB Q).2 6 t) (nI w) = 0 then q else q ||| sh w) q) → 3 - i < nn → WP hX9_winds X 144 42 [(0, .ref 0), (1, .int (nI t)), (2, .int (nI h)), (3, .int q), (4, .int (nI i))] [] F A R G := by
          intro nn
          induction nn with
          | zero => intro i q _ _ hm; exact absurd hm (Nat.not_lt_zero _)
          | succ nn ih_lp =>
            intro i q hi hv hm_lp
            refine wp_iload dX9_winds_42 4 rfl ?_
            refine wp_iconst (v := 2) dX9_winds_44 (by decide) ?_
            refine wp_icmp_gt 75 dX9_winds_45 (by decide) (fun c4 => ?_) (fun c4 => ?_)
            · replace c4 := (ix_lt (a := 2) (b := i) (rfl) (rfl) (by omega) (by omega)).mp c4
              refine wp_iload_n dX9_winds_75 rfl 3 rfl ?_
              exact wp_iret hC rfl rfl dX9_winds_76 (pP_ok (by unfold wWinds; rw [if_neg c1, if_neg c2, if_pos c3, nI_clamp (by omega), nI_clamp (by omega), hv, show 3 - i = 0 by omega]; rfl))
            · replace c4 := mt (ix_lt (a := 2) (b := i) (rfl) (rfl) (by omega) (by omega)).mpr c4
              refine wp_aload_n dX9_winds_48 rfl 0 rfl ?_
              refine wp_getR (q := b) fX9_68 rfl (rfl) (by decide) (hRb) dX9_winds_49 ?_
              refine wp_iload_n dX9_winds_52 rfl 1 rfl ?_
              refine wp_iload_n dX9_winds_53 rfl 2 rfl ?_
              refine wp_iload dX9_winds_54 4 rfl ?_
              refine wp_callP (e := reachP ((qB Q).2 1 h) ((qB Q).2 6 t) (nI i)) (mm_siteV (av := [.int (nI t), .int (nI h), .int (nI i)]) hC lX9_211 (hb) (bo_l0 hb) ⟨_, rfl, rfl⟩ rfl rfl (Nat.le_of_ble_eq_true rfl) dX9_winds_56) (cB_reaches l k _ _ _ _ b t h _ (qB Q) hR hb hB hw htn hh) (by omega) (by decide) ?_
              refine wp_if_eq 69 dX9_winds_59 (by decide) (fun c5 => ?_) (fun c5 => ?_)
              · refine wp_iinc (v := nI (i + 1)) 4 rfl (by exact nI_1 i) [1, 2, 3, 4, 0] (by decide) rfl rfl rfl dX9_winds_69 ?_
                refine wp_goto 42 dX9_winds_72 (by decide) ?_
                exact ih_lp (i + 1) _ (by omega) (by rw [hv, foldl_go (by omega)]; simp only [*, if_true, if_false, sh]) (by omega)
              · refine wp_iload_n dX9_winds_62 rfl 3 rfl ?_
                refine wp_iconst (v := 1) dX9_winds_63 (by decide) ?_
                refine wp_iload dX9_winds_64 4 rfl ?_
                refine wp_ishl dX9_winds_66 ?_
                refine wp_ior dX9_winds_67 ?_
                refine wp_istore_n [1, 2, 3, 0, 5] (by decide) rfl rfl rfl dX9_winds_68 rfl ?_
                refine wp_iinc (v := nI (i + 1)) 4 rfl (by exact nI_1 i) [1, 2, 3, 4, 0] (by decide) rfl rfl rfl dX9_winds_69 ?_
                refine wp_goto 42 dX9_winds_72 (by decide) ?_
                exact ih_lp (i + 1) _ (by omega) (by rw [hv, foldl_go (by omega)]; simp only [*, if_true, if_false, sh]) (by omega)
        exact lp (3 + 1) 0 0 (by decide) rfl (by omega)
      · rw [upP_eq] at c3
        refine wp_iconst (v := 0) dX9_winds_35 (by decide) ?_
        exact wp_iret hC rfl rfl dX9_winds_36 (pP_ok (by unfold wWinds; rw [if_neg c1, if_neg c2, if_neg c3]))
    · refine wp_iconst (v := (-1)) dX9_winds_22 (by decide) ?_
      exact wp_iret hC rfl rfl dX9_winds_23 (pP_ok (by unfold wWinds; (first | rw [if_pos c1] | rw [if_neg c1, if_pos c2])))

set_option maxRecDepth 100000 in
set_option maxHeartbeats 600000 in
theorem c_X9_match (l : Launch) (k : Nat) (F A : mmF) (R : mmR) (G : mmG) (row : Int32) (Q : QV) (hX : RepX F A R G Q) (hwf : wfQ Q) : Meets l hX9_match (k + 17) 144 144 [.ref 0, .int row] F A R G (pI (fun v F1 A1 R1 G1 => v = wMatch Q row ∧ RepX F1 A1 R1 G1 Q ∧ frX F A R G F1 A1 R1 G1)) := by
  refine mm_start rfl (Nat.le_of_ble_eq_true rfl) (fun X hC => ?_)
  show WP hX9_match X 144 0 [(0, .ref 0), (1, .int row)] [] F A R G
  obtain ⟨b, d, fi, hR, ⟨hRb, hRd, hb, hd, hbd⟩, ⟨hn, ht⟩, hB, hS, ⟨ha1, ha2, hfi, hac⟩, ⟨he, hes⟩, hk, hg⟩ := id hX
  obtain ⟨hw60, hw, hwS, hwA, hwE, hwK⟩ := id hwf
  have hw1 := hw.1
  have hb2 := bo_f hb
  have hd2 := bo_f hd
  refine wp_aload_n dX9_match_0 rfl 0 rfl ?_
  refine wp_getO (q := 63) fX9_47 hR rfl (rfl) (by decide) (by decide) rfl dX9_match_1 ?_
  refine wp_aload_n dX9_match_4 rfl 0 rfl ?_
  refine wp_getR (q := b) fX9_68 rfl (rfl) (by decide) (hRb) dX9_match_5 ?_
  refine wp_aload_n dX9_match_8 rfl 0 rfl ?_
  refine wp_getO (q := 3) fX9_19 hR rfl (rfl) (by decide) (by decide) rfl dX9_match_9 ?_
  refine wp_iconst (v := 1) dX9_match_12 (by decide) ?_
  refine wp_aload_n dX9_match_13 rfl 0 rfl ?_
  refine wp_getR (q := b) fX9_68 rfl (rfl) (by decide) (hRb) dX9_match_14 ?_
  refine wp_getI fX9_102 rfl (hb) (bo_l0 hb) dX9_match_17 ?_
  refine wp_top (x' := nI (qB Q).1.2.1) (hB.1.2.1) ?_
  refine wp_ishl dX9_match_20 ?_
  refine wp_iconst (v := 1) dX9_match_21 (by decide) ?_
  refine wp_isub dX9_match_22 ?_
  refine wp_callI (mm_siteV (av := [.ref b, .ref 3, .int ((1 <<< ((nI (qB Q).1.2.1) &&& 31)) - 1)]) hC lX9_215 (rfl) (by decide) ⟨_, rfl, rfl⟩ rfl rfl (Nat.le_of_ble_eq_true rfl) dX9_match_23) (c_X4_matchAmong l k _ _ _ _ b _ (qS Q) (qB Q) hR hb hS hB hw hwS.1) (by omega) (by decide) ?_
  rintro _ F1 A1 _ _ ⟨rfl, hq, hg1, rfl, rfl⟩
  refine wp_pop dX9_match_26 rfl ?_
  refine wp_iload_n dX9_match_27 rfl 1 rfl ?_
  refine wp_if_eq 41 dX9_match_28 (by decide) (fun c1 => ?_) (fun c1 => ?_)
  · refine wp_aload_n dX9_match_41 rfl 0 rfl ?_
    refine wp_getO (q := 63) fX9_47 hR rfl (rfl) (by decide) (by decide) rfl dX9_match_42 ?_
    refine wp_getI fX9_222 rfl (rfl) (by decide) dX9_match_45 ?_
    refine wp_top (x' := (mtP (qB Q) (qS Q) (sh (qB Q).1.2.1 - 1)).1) (congrArg Prod.fst hq) ?_
    exact wp_iret hC rfl rfl dX9_match_48 (pI_ok (by unfold wMatch; rw [if_pos c1]; exact ⟨rfl, hX.scr (fun r hr => ⟨(hg1 r (by omega)).1 (by omega), (hg1 r (by omega)).2⟩)⟩))
  · refine wp_aload_n dX9_match_31 rfl 0 rfl ?_
    refine wp_getO (q := 63) fX9_47 hR rfl (rfl) (by decide) (by decide) rfl dX9_match_32 ?_
    refine wp_getI fX9_219 rfl (rfl) (by decide) dX9_match_35 ?_
    refine wp_top (x' := (mtP (qB Q) (qS Q) (sh (qB Q).1.2.1 - 1)).2) (congrArg Prod.snd hq) ?_
    refine wp_goto 48 dX9_match_38 (by decide) ?_
    exact wp_iret hC rfl rfl dX9_match_48 (pI_ok (by unfold wMatch; rw [if_neg c1]; exact ⟨rfl, hX.scr (fun r hr => ⟨(hg1 r (by omega)).1 (by omega), (hg1 r (by omega)).2⟩)⟩))

set_option maxRecDepth 100000 in
set_option maxHeartbeats 600000 in
theorem c_X9_nails (l : Launch) (k : Nat) (F A : mmF) (R : mmR) (G : mmG) (x : Int32) (Q : QV) (hX : RepX F A R G Q) (hwf : wfQ Q) : Meets l hX9_nails (k + 13) 144 144 [.ref 0, .int x] F A R G (pI (fun v F1 A1 R1 G1 => v = wNails Q x ∧ RepX F1 A1 R1 G1 Q ∧ frX F A R G F1 A1 R1 G1)) := by
  refine mm_start rfl (Nat.le_of_ble_eq_true rfl) (fun X hC => ?_)
  show WP hX9_nails X 144 0 [(0, .ref 0), (1, .int x)] [] F A R G
  obtain ⟨b, d, fi, hR, ⟨hRb, hRd, hb, hd, hbd⟩, ⟨hn, ht⟩, hB, hS, ⟨ha1, ha2, hfi, hac⟩, ⟨he, hes⟩, hk, hg⟩ := id hX
  obtain ⟨hw60, hw, hwS, hwA, hwE, hwK⟩ := id hwf
  have hw1 := hw.1
  have hb2 := bo_f hb
  have hd2 := bo_f hd
  refine wp_aload_n dX9_nails_0 rfl 0 rfl ?_
  refine wp_getR (q := b) fX9_68 rfl (rfl) (by decide) (hRb) dX9_nails_1 ?_
  refine wp_iload_n dX9_nails_4 rfl 1 rfl ?_
  refine wp_callP (e := isIn x (nI (qB Q).1.1)) (mm_siteV (av := [.int x]) hC lX9_121 (hb) (bo_l0 hb) ⟨_, rfl, rfl⟩ rfl rfl (Nat.le_of_ble_eq_true rfl) dX9_nails_5) (cB_isHusk l (k + 12) _ _ _ _ _ _ (qB Q) hb hB) (by omega) (by decide) ?_
  refine wp_if_ne 13 dX9_nails_8 (by decide) (fun c1 => ?_) (fun c1 => ?_)
  · obtain ⟨h, hh, rfl⟩ := isIn_nat (by omega) c1
    refine wp_aload_n dX9_nails_13 rfl 0 rfl ?_
    refine wp_getO (q := 3) fX9_19 hR rfl (rfl) (by decide) (by decide) rfl dX9_nails_14 ?_
    refine wp_iload_n dX9_nails_17 rfl 1 rfl ?_
    refine wp_callP (e := upP ((qS Q).2.2 2) (nI h)) (mm_siteV (av := [.int (nI h)]) hC lX9_186 (rfl) (by decide) ⟨_, rfl, rfl⟩ rfl rfl (Nat.le_of_ble_eq_true rfl) dX9_nails_18) (cS_isUp l (k + 11) _ _ _ _ _ _ (qS Q) rfl hS) (by omega) (by decide) ?_
    refine wp_if_eq 43 dX9_nails_21 (by decide) (fun c2 => ?_) (fun c2 => ?_)
    · rw [upP_eq] at c2
      refine wp_bipush (v := (-9)) dX9_nails_43 (by decide) ?_
      exact wp_iret hC rfl rfl dX9_nails_45 (pI_ok (by unfold wNails; rw [if_neg c1, if_neg c2]; exact ⟨rfl, hX, frX.refl _ _ _ _⟩))
    · rw [upP_eq, Classical.not_not] at c2
      refine wp_aload_n dX9_nails_24 rfl 0 rfl ?_
      refine wp_getO (q := 63) fX9_47 hR rfl (rfl) (by decide) (by decide) rfl dX9_nails_25 ?_
      refine wp_aload_n dX9_nails_28 rfl 0 rfl ?_
      refine wp_getR (q := b) fX9_68 rfl (rfl) (by decide) (hRb) dX9_nails_29 ?_
      refine wp_aload_n dX9_nails_32 rfl 0 rfl ?_
      refine wp_getO (q := 3) fX9_19 hR rfl (rfl) (by decide) (by decide) rfl dX9_nails_33 ?_
      refine wp_iload_n dX9_nails_36 rfl 1 rfl ?_
      refine wp_callI (mm_siteV (av := [.ref b, .ref 3, .int (nI h)]) hC lX9_225 (rfl) (by decide) ⟨_, rfl, rfl⟩ rfl rfl (Nat.le_of_ble_eq_true rfl) dX9_nails_37) (c_X4_fewestNails l k _ _ _ _ b h (qS Q) (qB Q) hR hb hS hB hw) (by omega) (by decide) ?_
      rintro _ F1 A1 _ _ ⟨rfl, hg1, rfl, rfl⟩
      refine wp_goto 45 dX9_nails_40 (by decide) ?_
      exact wp_iret hC rfl rfl dX9_nails_45 (pI_ok (by unfold wNails; rw [if_neg c1, if_pos c2, nI_clamp (by omega)]; exact ⟨rfl, hX.scr (hg1.wide (by decide) (by decide))⟩))
  · refine wp_iconst (v := (-1)) dX9_nails_11 (by decide) ?_
    exact wp_iret hC rfl rfl dX9_nails_12 (pI_ok (by unfold wNails; rw [if_pos c1]; exact ⟨rfl, hX, frX.refl _ _ _ _⟩))

theorem hu_le {n : Nat} (h : n < 5) (row : Nat) (hr : row < 2 ^ 31) (hl : nI row < mm_hu n) : row < 100000000 := by
  have e : mm_hu n ≤ nI 100000000 := by
    have : ∀ n, n < 5 → mm_hu n ≤ nI 100000000 := by decide +kernel
    exact this n h
  have h2 : nI row < nI 100000000 := Int32.lt_of_lt_of_le hl e
  rwa [nI_ltI hr (by decide)] at h2
set_option maxRecDepth 100000 in
set_option maxHeartbeats 600000 in
theorem c_X9_judge (l : Launch) (k : Nat) (F A : mmF) (R : mmR) (G : mmG) (x y : Int32) (Q : QV) (hX : RepX F A R G Q) (hwf : wfQ Q) : Meets l hX9_judge (k + 13) 144 144 [.ref 0, .int x, .int y] F A R G (pI (fun v F1 A1 R1 G1 => v = wJudge Q x y ∧ RepX F1 A1 R1 G1 Q ∧ frX F A R G F1 A1 R1 G1)) := by
  refine mm_start rfl (Nat.le_of_ble_eq_true rfl) (fun X hC => ?_)
  show WP hX9_judge X 144 0 [(0, .ref 0), (1, .int x), (2, .int y)] [] F A R G
  obtain ⟨b, d, fi, hR, ⟨hRb, hRd, hb, hd, hbd⟩, ⟨hn, ht⟩, hB, hS, ⟨ha1, ha2, hfi, hac⟩, ⟨he, hes⟩, hk, hg⟩ := id hX
  obtain ⟨hw60, hw, hwS, hwA, hwE, hwK⟩ := id hwf
  have hw1 := hw.1
  have hb2 := bo_f hb
  have hd2 := bo_f hd
  refine wp_iload_n dX9_judge_0 rfl 1 rfl ?_
  refine wp_iconst (v := 1) dX9_judge_1 (by decide) ?_
  refine wp_icmp_lt 22 dX9_judge_2 (by decide) (fun c1 => ?_) (fun c1 => ?_)
  · refine wp_bipush (v := (-2)) dX9_judge_22 (by decide) ?_
    exact wp_iret hC rfl rfl dX9_judge_24 (pI_ok (by unfold wJudge; (first | rw [if_pos c1] | rw [if_neg c1, if_pos c2] | rw [if_neg c1, if_neg c2, if_pos c3] | rw [if_neg c1, if_neg c2, if_neg c3, nI_clamp (by omega), if_neg c4]); exact ⟨rfl, hX, frX.refl _ _ _ _⟩))
  · refine wp_iload_n dX9_judge_5 rfl 1 rfl ?_
    refine wp_iconst (v := 4) dX9_judge_6 (by decide) ?_
    refine wp_icmp_gt 22 dX9_judge_7 (by decide) (fun c2 => ?_) (fun c2 => ?_)
    · refine wp_bipush (v := (-2)) dX9_judge_22 (by decide) ?_
      exact wp_iret hC rfl rfl dX9_judge_24 (pI_ok (by unfold wJudge; (first | rw [if_pos c1] | rw [if_neg c1, if_pos c2] | rw [if_neg c1, if_neg c2, if_pos c3] | rw [if_neg c1, if_neg c2, if_neg c3, nI_clamp (by omega), if_neg c4]); exact ⟨rfl, hX, frX.refl _ _ _ _⟩))
    · obtain ⟨n, hn31, rfl⟩ := nI_of (x := x) (fun h => c1 (Int32.lt_trans h (by decide)))
      have hn1 : 1 ≤ n := by have h := mt (nI_ltI (b := 1) hn31 (by decide)).mpr c1; omega
      have hn4 : n ≤ 4 := by have h := mt (nI_ltI (a := 4) (by decide) hn31).mpr c2; omega
      refine wp_iload_n dX9_judge_10 rfl 2 rfl ?_
      refine wp_if_lt 22 dX9_judge_11 (by decide) (fun c3 => ?_) (fun c3 => ?_)
      · refine wp_bipush (v := (-2)) dX9_judge_22 (by decide) ?_
        exact wp_iret hC rfl rfl dX9_judge_24 (pI_ok (by unfold wJudge; (first | rw [if_pos c1] | rw [if_neg c1, if_pos c2] | rw [if_neg c1, if_neg c2, if_pos c3] | rw [if_neg c1, if_neg c2, if_neg c3, nI_clamp (by omega), if_neg c4]); exact ⟨rfl, hX, frX.refl _ _ _ _⟩))
      · obtain ⟨row, hr31, rfl⟩ := nI_of (x := y) c3
        refine wp_iload_n dX9_judge_14 rfl 2 rfl ?_
        refine wp_iload_n dX9_judge_15 rfl 1 rfl ?_
        refine wp_callP (e := mm_hu n) (mm_siteS (av := [.int (nI n)]) hC lX9_228 rfl rfl (Nat.le_of_ble_eq_true rfl) dX9_judge_16) (c_X9_hundreds l (k + 12) _ _ _ _ n (by omega)) (by omega) (by decide) ?_
        refine wp_icmp_lt 25 dX9_judge_19 (by decide) (fun c4 => ?_) (fun c4 => ?_)
        · have hr8 : row < 100000000 := by have h := hu_le (by omega : n < 5) row hr31 c4; exact h
          refine wp_aload_n dX9_judge_25 rfl 0 rfl ?_
          refine wp_getO (q := 63) fX9_47 hR rfl (rfl) (by decide) (by decide) rfl dX9_judge_26 ?_
          refine wp_aload_n dX9_judge_29 rfl 0 rfl ?_
          refine wp_getR (q := b) fX9_68 rfl (rfl) (by decide) (hRb) dX9_judge_30 ?_
          refine wp_aload_n dX9_judge_33 rfl 0 rfl ?_
          refine wp_getO (q := 3) fX9_19 hR rfl (rfl) (by decide) (by decide) rfl dX9_judge_34 ?_
          refine wp_iload_n dX9_judge_37 rfl 1 rfl ?_
          refine wp_iload_n dX9_judge_38 rfl 2 rfl ?_
          refine wp_callI (mm_siteV (av := [.ref b, .ref 3, .int (nI n), .int (nI row)]) hC lX9_231 (rfl) (by decide) ⟨_, rfl, rfl⟩ rfl rfl (Nat.le_of_ble_eq_true rfl) dX9_judge_39) (c_X4_firstThatCanNotBe l k _ _ _ _ b n row (qS Q) (qB Q) hR hb hS hB hw hn4 hr8) (by omega) (by decide) ?_
          rintro _ F1 A1 _ _ ⟨rfl, hg1, rfl, rfl⟩
          exact wp_iret hC rfl rfl dX9_judge_42 (pI_ok (by unfold wJudge; rw [if_neg c1, if_neg c2, if_neg c3, nI_clamp (by omega), if_pos c4, nI_clamp (by omega)]; exact ⟨rfl, hX.scr (hg1.wide (by decide) (by decide))⟩))
        · refine wp_bipush (v := (-2)) dX9_judge_22 (by decide) ?_
          exact wp_iret hC rfl rfl dX9_judge_24 (pI_ok (by unfold wJudge; (first | rw [if_pos c1] | rw [if_neg c1, if_pos c2] | rw [if_neg c1, if_neg c2, if_pos c3] | rw [if_neg c1, if_neg c2, if_neg c3, nI_clamp (by omega), if_neg c4]); exact ⟨rfl, hX, frX.refl _ _ _ _⟩))

