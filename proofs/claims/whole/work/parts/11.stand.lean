theorem cS_isUp (l : Launch) (k : Nat) (F A : mmF) (R : mmR) (G : mmG) (a : Nat) (h : Int32) (S : SV) (ha : mm_K a = 7) (hS : isS F A a S) : Meets l hX7_isUp (k + 1) 144 144 [.ref a, .int h] F A R G (pP (upP (S.2.2 2) h) F A R G) := by
  have := c_X7_isUp l k F A R G a h ha
  rwa [hS.2.2.1] at this
theorem cB_isHusk (l : Launch) (k : Nat) (F A : mmF) (R : mmR) (G : mmG) (b : Nat) (h : Int32) (B : BV) (hb : mm_K b = 1) (hB : isB F A b B) : Meets l hX1_isHusk k 144 144 [.ref b, .int h] F A R G (pP (isIn h (nI B.1.1)) F A R G) := by
  have := c_X1_isHusk l k F A R G b h hb
  rwa [hB.1.1] at this
theorem cB_isThrower (l : Launch) (k : Nat) (F A : mmF) (R : mmR) (G : mmG) (b : Nat) (h : Int32) (B : BV) (hb : mm_K b = 1) (hB : isB F A b B) : Meets l hX1_isThrower k 144 144 [.ref b, .int h] F A R G (pP (isIn h (nI B.1.2.1)) F A R G) := by
  have := c_X1_isThrower l k F A R G b h hb
  rwa [hB.1.2.1] at this
theorem cB_loosensBy (l : Launch) (k : Nat) (F A : mmF) (R : mmR) (G : mmG) (b t : Nat) (B : BV) (hR : mm_RL R) (hb : mm_K b = 1) (hB : isB F A b B) (hw : wfB B) (ht : t < B.1.2.1) : Meets l hX1_loosensBy k 144 144 [.ref b, .int (nI t)] F A R G (pP (forceP (B.2 5 t) (B.2 6 t)) F A R G) := by
  have := c_X1_loosensBy l k F A R G b t hR hb (by have := hw.1; omega)
  rwa [(hB.2.2.1 t ht).2.1, (hB.2.2.1 t ht).2.2] at this
theorem cB_landing (l : Launch) (k : Nat) (F A : mmF) (R : mmR) (G : mmG) (b t : Nat) (pl lk wd : Int32) (B : BV) (hR : mm_RL R) (hb : mm_K b = 1) (hB : isB F A b B) (hw : wfB B) (ht : t < B.1.2.1) : Meets l hX1_landing (k + 1) 144 144 [.ref b, .int (nI t), .int pl, .int lk, .int wd] F A R G (pP (landP (B.2 4 t) (B.2 6 t) pl lk wd) F A R G) := by
  have := c_X1_landing l k F A R G b t pl lk wd hR hb (by have := hw.1; omega)
  rwa [(hB.2.2.1 t ht).1, (hB.2.2.1 t ht).2.2] at this
theorem cB_reaches (l : Launch) (k : Nat) (F A : mmF) (R : mmR) (G : mmG) (b t h : Nat) (wd : Int32) (B : BV) (hR : mm_RL R) (hb : mm_K b = 1) (hB : isB F A b B) (hw : wfB B) (ht : t < B.1.2.1) (hh : h < B.1.1) : Meets l hX1_reaches (k + 1) 144 144 [.ref b, .int (nI t), .int (nI h), .int wd] F A R G (pP (reachP (B.2 1 h) (B.2 6 t) wd) F A R G) := by
  have := c_X1_reaches l k F A R G b t h wd hR hb (by have := hw.1; omega) (by have := hw.1; omega)
  rwa [(hB.2.1 h hh).1, (hB.2.2.1 t ht).2.2] at this
theorem cS_firmness (l : Launch) (k : Nat) (F A : mmF) (R : mmR) (G : mmG) (a b h : Nat) (S : SV) (B : BV) (hR : mm_RL R) (ha : mm_K a = 7) (hb : mm_K b = 1) (hS : isS F A a S) (hB : isB F A b B) (hw : wfB B) (hh : h < B.1.1) : Meets l hX7_firmness (k + 1) 144 144 [.ref a, .ref b, .int (nI h)] F A R G (pP (firmB B S h) F A R G) := by
  have h5 : h < 5 := by have := hw.1; omega
  have := c_X7_firmness l k F A R G a b h hR ha hb h5
  rwa [(hB.2.1 h hh).2.1, (hB.2.1 h hh).2.2, hS.2.2.2.2.1, hS.2.2.2.1, hS.2.1 h h5] at this
set_option maxRecDepth 100000 in
set_option maxHeartbeats 600000 in
theorem c_X7_setUp (l : Launch) (k : Nat) (F A : mmF) (R : mmR) (G : mmG) (a h : Nat) (S : SV) (hR : mm_RL R) (ha : mm_K a = 7) (hS : isS F A a S) (hh : h < 5) : Meets l hX7_setUp (k + 2) 144 144 [.ref a, .int (nI h)] F A R G (pI (fun v F1 A1 R1 G1 => v = (if bt (S.2.2 2) (nI h) = 0 then 0 else 1) ∧ isS F1 A1 a (setS S h) ∧ fr a F A F1 A1 ∧ R = R1 ∧ G = G1)) := by
  refine mm_start rfl (Nat.le_of_ble_eq_true rfl) (fun X hC => ?_)
  show WP hX7_setUp X 144 0 [(0, .ref a), (1, .int (nI h))] [] F A R G
  refine wp_iconst (v := 1) dX7_setUp_0 (by decide) ?_
  refine wp_iload_n dX7_setUp_1 rfl 1 rfl ?_
  refine wp_ishl dX7_setUp_2 ?_
  refine wp_istore_n [1, 2, 0] (by decide) rfl rfl rfl dX7_setUp_3 rfl ?_
  refine wp_aload_n dX7_setUp_4 rfl 0 rfl ?_
  refine wp_getI fX7_18 rfl (ha) (st_l0 ha) dX7_setUp_5 ?_
  refine wp_iload_n dX7_setUp_8 rfl 2 rfl ?_
  refine wp_iand dX7_setUp_9 ?_
  refine wp_if_ne 15 dX7_setUp_10 (by decide) (fun c1 => ?_) (fun c1 => ?_)
  · refine wp_aload_n dX7_setUp_15 rfl 0 rfl ?_
    refine wp_dup dX7_setUp_16 rfl ?_
    refine wp_getI fX7_18 rfl (ha) (st_l0 ha) dX7_setUp_17 ?_
    refine wp_iload_n dX7_setUp_20 rfl 2 rfl ?_
    refine wp_ixor dX7_setUp_21 ?_
    refine wp_putI fX7_18 fn_7_2 rfl (ha) (st_l0 ha) dX7_setUp_22 ?_
    refine wp_aload_n dX7_setUp_25 rfl 0 rfl ?_
    refine wp_getO (q := a + 1) fX7_9 hR rfl (ha) (st_l0 ha) (by decide) rfl dX7_setUp_26 ?_
    refine wp_iload_n dX7_setUp_29 rfl 1 rfl ?_
    refine wp_iconst (v := 0) dX7_setUp_30 (by decide) ?_
    refine wp_iast h (rfl) ((st_f ha).1.1) (st_l1 ha) (st_i1 ha (hh)) dX7_setUp_31 ?_
    refine wp_iconst (v := 1) dX7_setUp_32 (by decide) ?_
    exact wp_iret hC rfl rfl dX7_setUp_33 (pI_ok ⟨by rw [hS.2.2.1, bt_sh] at c1; rw [if_neg c1], by rw [hS.2.2.1, bt_sh] at c1; rw [setS, if_neg c1]; refine ⟨?_, ?_, ?_, ?_, ?_, ?_, ?_⟩ <;> first | (intro j hj; simp [u2, va_up, hitS, hS.1 j hj, hS.2.1 j hj]; done) | (simp [u2, va_up, sh, hitS, hS.2.2.1, hS.2.2.2.1, hS.2.2.2.2.1, hS.2.2.2.2.2.1, hS.2.2.2.2.2.2]; done), ⟨fun r hr => by first | rfl | simp [u2, va_up, hr], fun r hr hr2 => by first | rfl | simp [u2, va_up, hr, hr2]⟩, rfl, rfl⟩)
  · refine wp_iconst (v := 0) dX7_setUp_13 (by decide) ?_
    exact wp_iret hC rfl rfl dX7_setUp_14 (pI_ok ⟨by rw [hS.2.2.1, bt_sh] at c1; rw [if_pos c1], by rw [hS.2.2.1, bt_sh] at c1; rw [setS, if_pos c1]; exact hS, fr.refl a F A, rfl, rfl⟩)

set_option maxRecDepth 100000 in
set_option maxHeartbeats 600000 in
theorem c_X7_turnNail (l : Launch) (k : Nat) (F A : mmF) (R : mmR) (G : mmG) (a h : Nat) (S : SV) (hR : mm_RL R) (ha : mm_K a = 7) (hS : isS F A a S) (hh : h < 5) : Meets l hX7_turnNail (k + 2) 144 144 [.ref a, .int (nI h)] F A R G (pI (fun v F1 A1 R1 G1 => v = (if bt (S.2.2 2) (nI h) = 0 then 1 else 0) ∧ isS F1 A1 a (nailS S h) ∧ fr a F A F1 A1 ∧ R = R1 ∧ G = G1)) := by
  refine mm_start rfl (Nat.le_of_ble_eq_true rfl) (fun X hC => ?_)
  show WP hX7_turnNail X 144 0 [(0, .ref a), (1, .int (nI h))] [] F A R G
  refine wp_aload_n dX7_turnNail_0 rfl 0 rfl ?_
  refine wp_iload_n dX7_turnNail_1 rfl 1 rfl ?_
  refine wp_callP (mm_siteV (av := [.int (nI h)]) hC lX7_72 (ha) (st_l0 ha) ⟨_, rfl, rfl⟩ rfl rfl (Nat.le_of_ble_eq_true rfl) dX7_turnNail_2) (cS_isUp l k _ _ _ _ _ _ _ ha hS) (by omega) (by decide) ?_
  refine wp_if_ne 10 dX7_turnNail_5 (by decide) (fun c1 => ?_) (fun c1 => ?_)
  · refine wp_aload_n dX7_turnNail_10 rfl 0 rfl ?_
    refine wp_dup dX7_turnNail_11 rfl ?_
    refine wp_getI fX7_25 rfl (ha) (st_l0 ha) dX7_turnNail_12 ?_
    refine wp_iconst (v := 1) dX7_turnNail_15 (by decide) ?_
    refine wp_iload_n dX7_turnNail_16 rfl 1 rfl ?_
    refine wp_ishl dX7_turnNail_17 ?_
    refine wp_ixor dX7_turnNail_18 ?_
    refine wp_putI fX7_25 fn_7_4 rfl (ha) (st_l0 ha) dX7_turnNail_19 ?_
    refine wp_iconst (v := 1) dX7_turnNail_22 (by decide) ?_
    exact wp_iret hC rfl rfl dX7_turnNail_23 (pI_ok ⟨by rw [upP_eq] at c1; simp only [Classical.not_not] at c1; rw [if_pos c1], by rw [upP_eq] at c1; simp only [Classical.not_not] at c1; rw [nailS, if_pos c1]; refine ⟨?_, ?_, ?_, ?_, ?_, ?_, ?_⟩ <;> first | (intro j hj; simp [u2, va_up, hitS, hS.1 j hj, hS.2.1 j hj]; done) | (simp [u2, va_up, sh, hitS, hS.2.2.1, hS.2.2.2.1, hS.2.2.2.2.1, hS.2.2.2.2.2.1, hS.2.2.2.2.2.2]; done), ⟨fun r hr => by first | rfl | simp [u2, va_up, hr], fun r hr hr2 => by first | rfl | simp [u2, va_up, hr, hr2]⟩, rfl, rfl⟩)
  · refine wp_iconst (v := 0) dX7_turnNail_8 (by decide) ?_
    exact wp_iret hC rfl rfl dX7_turnNail_9 (pI_ok ⟨by rw [upP_eq] at c1; rw [if_neg (by simpa using c1)], by rw [upP_eq] at c1; rw [nailS, if_neg (by simpa using c1)]; exact hS, fr.refl a F A, rfl, rfl⟩)

set_option maxRecDepth 100000 in
set_option maxHeartbeats 600000 in
theorem c_X7_takePenny (l : Launch) (k : Nat) (F A : mmF) (R : mmR) (G : mmG) (a : Nat) (S : SV) (ha : mm_K a = 7) (hS : isS F A a S) : Meets l hX7_takePenny (k + 1) 144 144 [.ref a] F A R G (pI (fun v F1 A1 R1 G1 => v = (if S.2.2 6 < 9 then 1 else 0) ∧ isS F1 A1 a (payS S) ∧ fr a F A F1 A1 ∧ R = R1 ∧ G = G1)) := by
  refine mm_start rfl (Nat.le_of_ble_eq_true rfl) (fun X hC => ?_)
  show WP hX7_takePenny X 144 0 [(0, .ref a)] [] F A R G
  refine wp_aload_n dX7_takePenny_0 rfl 0 rfl ?_
  refine wp_getI fX7_31 rfl (ha) (st_l0 ha) dX7_takePenny_1 ?_
  refine wp_bipush (v := 9) dX7_takePenny_4 (by decide) ?_
  refine wp_icmp_lt 11 dX7_takePenny_6 (by decide) (fun c1 => ?_) (fun c1 => ?_)
  · refine wp_aload_n dX7_takePenny_11 rfl 0 rfl ?_
    refine wp_bipush (v := 9) dX7_takePenny_12 (by decide) ?_
    refine wp_aload_n dX7_takePenny_14 rfl 0 rfl ?_
    refine wp_getI fX7_31 rfl (ha) (st_l0 ha) dX7_takePenny_15 ?_
    refine wp_iconst (v := 3) dX7_takePenny_18 (by decide) ?_
    refine wp_iadd dX7_takePenny_19 ?_
    refine wp_min hC (by omega) (by decide) k_490 k_491 k_5 k_492 (Nat.le_of_ble_eq_true rfl) dX7_takePenny_20 ?_
    refine wp_putI fX7_31 fn_7_6 rfl (ha) (st_l0 ha) dX7_takePenny_23 ?_
    refine wp_iconst (v := 1) dX7_takePenny_26 (by decide) ?_
    exact wp_iret hC rfl rfl dX7_takePenny_27 (pI_ok ⟨by rw [hS.2.2.2.2.2.2] at c1; rw [if_pos c1], by rw [hS.2.2.2.2.2.2] at c1; rw [payS, if_pos c1]; refine ⟨?_, ?_, ?_, ?_, ?_, ?_, ?_⟩ <;> first | (intro j hj; simp [u2, va_up, hitS, hS.1 j hj, hS.2.1 j hj]; done) | (simp [u2, va_up, sh, hitS, hS.2.2.1, hS.2.2.2.1, hS.2.2.2.2.1, hS.2.2.2.2.2.1, hS.2.2.2.2.2.2]; done), ⟨fun r hr => by first | rfl | simp [u2, va_up, hr], fun r hr hr2 => by first | rfl | simp [u2, va_up, hr, hr2]⟩, rfl, rfl⟩)
  · refine wp_iconst (v := 0) dX7_takePenny_9 (by decide) ?_
    exact wp_iret hC rfl rfl dX7_takePenny_10 (pI_ok ⟨by rw [hS.2.2.2.2.2.2] at c1; rw [if_neg c1], by rw [hS.2.2.2.2.2.2] at c1; rw [payS, if_neg c1]; exact hS, fr.refl a F A, rfl, rfl⟩)

set_option maxRecDepth 100000 in
set_option maxHeartbeats 600000 in
theorem c_X7_becomeAs (l : Launch) (k : Nat) (F A : mmF) (R : mmR) (G : mmG) (a c : Nat) (S : SV) (hR : mm_RL R) (ha : mm_K a = 7) (hc : mm_K c = 7) (hn : c ≠ a) (hS : isS F A c S) : Meets l hX7_becomeAs (k + 2) 144 144 [.ref a, .ref c] F A R G (pV (fun F1 A1 R1 G1 => isS F1 A1 a S ∧ fr a F A F1 A1 ∧ R = R1 ∧ G = G1)) := by
  refine mm_start rfl (Nat.le_of_ble_eq_true rfl) (fun X hC => ?_)
  show WP hX7_becomeAs X 144 0 [(0, .ref a), (1, .ref c)] [] F A R G
  refine wp_aload_n dX7_becomeAs_0 rfl 1 rfl ?_
  refine wp_getO (q := c + 1) fX7_9 hR rfl (hc) (st_l0 hc) (by decide) rfl dX7_becomeAs_1 ?_
  refine wp_iconst (v := 0) dX7_becomeAs_4 (by decide) ?_
  refine wp_aload_n dX7_becomeAs_5 rfl 0 rfl ?_
  refine wp_getO (q := a + 1) fX7_9 hR rfl (ha) (st_l0 ha) (by decide) rfl dX7_becomeAs_6 ?_
  refine wp_iconst (v := 0) dX7_becomeAs_9 (by decide) ?_
  refine wp_iconst (v := 5) dX7_becomeAs_10 (by decide) ?_
  refine wp_copy (n := 5) hC (by omega) rfl ((st_f hc).1.1) ((st_f ha).1.1) (st_l1 hc) (st_l1 ha) (Nat.le_of_eq (st_f hc).1.2.symm) (Nat.le_of_eq (st_f ha).1.2.symm) k_442 k_444 k_443 k_13 (Nat.le_of_ble_eq_true rfl) dX7_becomeAs_11 ?_
  refine wp_aload_n dX7_becomeAs_14 rfl 1 rfl ?_
  refine wp_getO (q := c + 2) fX7_15 hR rfl (hc) (st_l0 hc) (by decide) rfl dX7_becomeAs_15 ?_
  refine wp_iconst (v := 0) dX7_becomeAs_18 (by decide) ?_
  refine wp_aload_n dX7_becomeAs_19 rfl 0 rfl ?_
  refine wp_getO (q := a + 2) fX7_15 hR rfl (ha) (st_l0 ha) (by decide) rfl dX7_becomeAs_20 ?_
  refine wp_iconst (v := 0) dX7_becomeAs_23 (by decide) ?_
  refine wp_iconst (v := 5) dX7_becomeAs_24 (by decide) ?_
  refine wp_copy (n := 5) hC (by omega) rfl ((st_f hc).2.1.1) ((st_f ha).2.1.1) (st_l2 hc) (st_l2 ha) (Nat.le_of_eq (st_f hc).2.1.2.symm) (Nat.le_of_eq (st_f ha).2.1.2.symm) k_442 k_444 k_443 k_13 (Nat.le_of_ble_eq_true rfl) dX7_becomeAs_25 ?_
  refine wp_aload_n dX7_becomeAs_28 rfl 0 rfl ?_
  refine wp_aload_n dX7_becomeAs_29 rfl 1 rfl ?_
  refine wp_getI fX7_18 rfl (hc) (st_l0 hc) dX7_becomeAs_30 ?_
  refine wp_putI fX7_18 fn_7_2 rfl (ha) (st_l0 ha) dX7_becomeAs_33 ?_
  refine wp_aload_n dX7_becomeAs_36 rfl 0 rfl ?_
  refine wp_aload_n dX7_becomeAs_37 rfl 1 rfl ?_
  refine wp_getI fX7_22 rfl (hc) (st_l0 hc) dX7_becomeAs_38 ?_
  refine wp_putI fX7_22 fn_7_3 rfl (ha) (st_l0 ha) dX7_becomeAs_41 ?_
  refine wp_aload_n dX7_becomeAs_44 rfl 0 rfl ?_
  refine wp_aload_n dX7_becomeAs_45 rfl 1 rfl ?_
  refine wp_getI fX7_25 rfl (hc) (st_l0 hc) dX7_becomeAs_46 ?_
  refine wp_putI fX7_25 fn_7_4 rfl (ha) (st_l0 ha) dX7_becomeAs_49 ?_
  refine wp_aload_n dX7_becomeAs_52 rfl 0 rfl ?_
  refine wp_aload_n dX7_becomeAs_53 rfl 1 rfl ?_
  refine wp_getI fX7_28 rfl (hc) (st_l0 hc) dX7_becomeAs_54 ?_
  refine wp_putI fX7_28 fn_7_5 rfl (ha) (st_l0 ha) dX7_becomeAs_57 ?_
  refine wp_aload_n dX7_becomeAs_60 rfl 0 rfl ?_
  refine wp_aload_n dX7_becomeAs_61 rfl 1 rfl ?_
  refine wp_getI fX7_31 rfl (hc) (st_l0 hc) dX7_becomeAs_62 ?_
  refine wp_putI fX7_31 fn_7_6 rfl (ha) (st_l0 ha) dX7_becomeAs_65 ?_
  exact wp_vret hC rfl dX7_becomeAs_68 (pV_ok ⟨by have h2 := st_two ha hc; refine ⟨?_, ?_, ?_, ?_, ?_, ?_, ?_⟩ <;> first | (intro j hj; simp [u2, va_up, va_cpy, hj, hn, hS.1 j hj, hS.2.1 j hj, show c + 1 ≠ a + 1 by omega, show c + 2 ≠ a + 1 by omega, show c + 2 ≠ a + 2 by omega, show c + 1 ≠ a + 2 by omega]; done) | (simp [u2, va_up, hn, hS.2.2.1, hS.2.2.2.1, hS.2.2.2.2.1, hS.2.2.2.2.2.1, hS.2.2.2.2.2.2]; done), ⟨fun r hr => by first | rfl | simp [u2, va_up, hr], fun r hr hr2 => by first | rfl | simp [u2, va_up, hr, hr2]⟩, rfl, rfl⟩)

set_option maxRecDepth 100000 in
set_option maxHeartbeats 600000 in
theorem c_X1_huskAt (l : Launch) (k : Nat) (F A : mmF) (R : mmR) (G : mmG) (b : Nat) (pl : Int32) (B : BV) (hR : mm_RL R) (hb : mm_K b = 1) (hB : isB F A b B) (hw : wfB B) : Meets l hX1_huskAt k 144 144 [.ref b, .int pl] F A R G (pP (hAt (B.2 1) pl 0 B.1.1) F A R G) := by
  refine mm_start rfl (Nat.le_of_ble_eq_true rfl) (fun X hC => ?_)
  show WP hX1_huskAt X 144 0 [(0, .ref b), (1, .int pl)] [] F A R G
  have hw1 := hw.1
  refine wp_iconst (v := 0) dX1_huskAt_0 (by decide) ?_
  refine wp_istore_n [1, 2, 0] (by decide) rfl rfl rfl dX1_huskAt_1 rfl ?_
  have lp : ∀ (nn : Nat) (i : Nat), (i ≤ B.1.1) → (hAt (B.2 1) pl 0 B.1.1 = hAt (B.2 1) pl i (B.1.1 - i)) → B.1.1 - i < nn → WP hX1_huskAt X 144 2 [(0, .ref b), (1, .int pl), (2, .int (nI i))] [] F A R G := by
    intro nn
    induction nn with
    | zero => intro i _ _ hm; exact absurd hm (Nat.not_lt_zero _)
    | succ nn ih_lp =>
      intro i hi hv hm_lp
      refine wp_iload_n dX1_huskAt_2 rfl 2 rfl ?_
      refine wp_aload_n dX1_huskAt_3 rfl 0 rfl ?_
      refine wp_getI fX1_39 rfl (hb) (bo_l0 hb) dX1_huskAt_4 ?_
      refine wp_top (x' := nI B.1.1) (hB.1.1) ?_
      refine wp_icmp_ge 28 dX1_huskAt_7 (by decide) (fun c1 => ?_) (fun c1 => ?_)
      · replace c1 := (ix_le (a := B.1.1) (b := i) (rfl) (rfl) (by omega) (by omega)).mp c1
        refine wp_bipush (v := (-9)) dX1_huskAt_28 (by decide) ?_
        exact wp_iret hC rfl rfl dX1_huskAt_30 (pP_ok (by rw [hv, show B.1.1 - i = 0 by omega]; rfl))
      · replace c1 := mt (ix_le (a := B.1.1) (b := i) (rfl) (rfl) (by omega) (by omega)).mpr c1
        refine wp_aload_n dX1_huskAt_10 rfl 0 rfl ?_
        refine wp_getO (q := b + 1) fX1_9 hR rfl (hb) (bo_l0 hb) (by decide) rfl dX1_huskAt_11 ?_
        refine wp_iload_n dX1_huskAt_14 rfl 2 rfl ?_
        refine wp_iald i (rfl) (bo_k1 hb) (bo_l1 hb) (bo_i1 hb (by omega)) dX1_huskAt_15 ?_
        refine wp_top (x' := B.2 1 i) ((hB.2.1 i (by omega)).1) ?_
        refine wp_iload_n dX1_huskAt_16 rfl 1 rfl ?_
        refine wp_icmp_ne 22 dX1_huskAt_17 (by decide) (fun c2 => ?_) (fun c2 => ?_)
        · refine wp_iinc (v := nI (i + 1)) 2 rfl (by exact nI_1 i) [1, 2, 0] (by decide) rfl rfl rfl dX1_huskAt_22 ?_
          refine wp_goto 2 dX1_huskAt_25 (by decide) ?_
          exact ih_lp (i + 1) (by omega) (by rw [hv, show B.1.1 - i = B.1.1 - (i + 1) + 1 by omega, hAt, if_neg c2]) (by omega)
        · refine wp_iload_n dX1_huskAt_20 rfl 2 rfl ?_
          exact wp_iret hC rfl rfl dX1_huskAt_21 (pP_ok (by rw [hv, show B.1.1 - i = B.1.1 - (i + 1) + 1 by omega, hAt, if_pos c2]))
  exact lp (B.1.1 + 1) 0 (Nat.zero_le _) (by rw [Nat.sub_zero]) (by omega)

set_option maxRecDepth 100000 in
set_option maxHeartbeats 600000 in
theorem c_X7_canBeThrownAt (l : Launch) (k : Nat) (F A : mmF) (R : mmR) (G : mmG) (a b t h : Nat) (S : SV) (B : BV) (hR : mm_RL R) (ha : mm_K a = 7) (hb : mm_K b = 1) (hS : isS F A a S) (hB : isB F A b B) (hw : wfB B) (ht : t < B.1.2.1) (hh : h < B.1.1) : Meets l hX7_canBeThrownAt (k + 2) 144 144 [.ref a, .ref b, .int (nI t), .int (nI h)] F A R G (pP (canB B S t h) F A R G) := by
  refine mm_start rfl (Nat.le_of_ble_eq_true rfl) (fun X hC => ?_)
  show WP hX7_canBeThrownAt X 144 0 [(0, .ref a), (1, .ref b), (2, .int (nI t)), (3, .int (nI h))] [] F A R G
  refine wp_aload_n dX7_canBeThrownAt_0 rfl 0 rfl ?_
  refine wp_iload_n dX7_canBeThrownAt_1 rfl 3 rfl ?_
  refine wp_callP (mm_siteV (av := [.int (nI h)]) hC lX7_72 (ha) (st_l0 ha) ⟨_, rfl, rfl⟩ rfl rfl (Nat.le_of_ble_eq_true rfl) dX7_canBeThrownAt_2) (cS_isUp l k _ _ _ _ _ _ _ ha hS) (by omega) (by decide) ?_
  refine wp_if_eq 25 dX7_canBeThrownAt_5 (by decide) (fun c1 => ?_) (fun c1 => ?_)
  · refine wp_iconst (v := 0) dX7_canBeThrownAt_25 (by decide) ?_
    exact wp_iret hC rfl rfl dX7_canBeThrownAt_26 (pP_ok (by unfold canB; simp_all [upP]))
  · refine wp_aload_n dX7_canBeThrownAt_8 rfl 1 rfl ?_
    refine wp_iload_n dX7_canBeThrownAt_9 rfl 2 rfl ?_
    refine wp_iload_n dX7_canBeThrownAt_10 rfl 3 rfl ?_
    refine wp_aload_n dX7_canBeThrownAt_11 rfl 0 rfl ?_
    refine wp_getI fX7_28 rfl (ha) (st_l0 ha) dX7_canBeThrownAt_12 ?_
    refine wp_top (x' := S.2.2 5) (hS.2.2.2.2.2.1) ?_
    refine wp_callP (mm_siteV (av := [.int (nI t), .int (nI h), .int (S.2.2 5)]) hC lX7_90 (hb) (bo_l0 hb) ⟨_, rfl, rfl⟩ rfl rfl (Nat.le_of_ble_eq_true rfl) dX7_canBeThrownAt_15) (cB_reaches l k _ _ _ _ _ _ _ _ B hR hb hB hw ht hh) (by omega) (by decide) ?_
    refine wp_if_eq 25 dX7_canBeThrownAt_18 (by decide) (fun c2 => ?_) (fun c2 => ?_)
    · refine wp_iconst (v := 0) dX7_canBeThrownAt_25 (by decide) ?_
      exact wp_iret hC rfl rfl dX7_canBeThrownAt_26 (pP_ok (by unfold canB; simp_all [upP]))
    · refine wp_iconst (v := 1) dX7_canBeThrownAt_21 (by decide) ?_
      refine wp_goto 26 dX7_canBeThrownAt_22 (by decide) ?_
      exact wp_iret hC rfl rfl dX7_canBeThrownAt_26 (pP_ok (by unfold canB; simp_all [upP]))

set_option maxRecDepth 100000 in
set_option maxHeartbeats 4000000 in
theorem c_X7_fall (l : Launch) (k : Nat) (R : mmR) (G : mmG) (a b : Nat) (B : BV) (hR : mm_RL R) (ha : mm_K a = 7) (hb : mm_K b = 1) (hw : wfB B) : ∀ (n : Nat) (F A : mmF) (S : SV) (h d : Nat) (fl : Int32), d + n = 5 → h < 5 → isS F A a S → isB F A b B → Meets l hX7_fall (k + n + 4) 144 144 [.ref b, .ref a, .int (nI h), .int fl, .int (nI d)] F A R G (pI (fun v F1 A1 R1 G1 => v = (fallP B n S h fl).2 ∧ isS F1 A1 a (fallP B n S h fl).1 ∧ fr a F A F1 A1 ∧ R = R1 ∧ G = G1)) := by
  intro n
  induction n with
  | zero =>
    intro F A S h d fl hd hh hS hB
    refine mm_start rfl (Nat.le_of_ble_eq_true rfl) (fun X hC => ?_)
    show WP hX7_fall X 144 0 [(0, .ref b), (1, .ref a), (2, .int (nI h)), (3, .int fl), (4, .int (nI d))] [] F A R G
    have hf := fr.refl a F A
    have hw1 := hw.1
    have hB0 := hB
    refine wp_iload dX7_fall_0 4 rfl ?_
    refine wp_iconst (v := 5) dX7_fall_2 (by decide) ?_
    refine wp_icmp_lt 8 dX7_fall_3 (by decide) (fun c1 => ?_) (fun c1 => ?_)
    · replace c1 := (ix_lt (a := d) (b := 5) (rfl) (rfl) (by omega) (by omega)).mp c1
      exact absurd c1 (by omega)
    · replace c1 := mt (ix_lt (a := d) (b := 5) (rfl) (rfl) (by omega) (by omega)).mpr c1
      refine wp_iload_n dX7_fall_6 rfl 3 rfl ?_
      exact wp_iret hC rfl rfl dX7_fall_7 (pI_ok ⟨rfl, hS, fr.refl a F A, rfl, rfl⟩)
  | succ n ih =>
    intro F A S h d fl hd hh hS hB
    refine mm_start rfl (Nat.le_of_ble_eq_true rfl) (fun X hC => ?_)
    show WP hX7_fall X 144 0 [(0, .ref b), (1, .ref a), (2, .int (nI h)), (3, .int fl), (4, .int (nI d))] [] F A R G
    have hf := fr.refl a F A
    have hw1 := hw.1
    have hB0 := hB
    refine wp_iload dX7_fall_0 4 rfl ?_
    refine wp_iconst (v := 5) dX7_fall_2 (by decide) ?_
    refine wp_icmp_lt 8 dX7_fall_3 (by decide) (fun c1 => ?_) (fun c1 => ?_)
    · replace c1 := (ix_lt (a := d) (b := 5) (rfl) (rfl) (by omega) (by omega)).mp c1
      refine wp_aload_n dX7_fall_8 rfl 1 rfl ?_
      refine wp_dup dX7_fall_9 rfl ?_
      refine wp_getI fX7_18 rfl (ha) (st_l0 ha) dX7_fall_10 ?_
      refine wp_top (x' := S.2.2 2) (hS.2.2.1) ?_
      refine wp_iconst (v := 1) dX7_fall_13 (by decide) ?_
      refine wp_iload_n dX7_fall_14 rfl 2 rfl ?_
      refine wp_ishl dX7_fall_15 ?_
      refine wp_ior dX7_fall_16 ?_
      refine wp_putI fX7_18 fn_7_2 rfl (ha) (st_l0 ha) dX7_fall_17 ?_
      obtain ⟨F_1, hF_1⟩ : ∃ z, z = u2 F a 2 ((S.2.2 2) ||| (1 <<< ((nI h) &&& 31))) := ⟨_, rfl⟩
      rw [← hF_1]
      have hg_1 : fr a F A F_1 A := by rw [hF_1]; exact ⟨fun r hr => by first | rfl | simp [u2, va_up, hr], fun r hr hr2 => by first | rfl | simp [u2, va_up, hr, hr2]⟩
      have hS : isS F_1 A a (S.1, S.2.1, va_up S.2.2 2 (S.2.2 2 ||| sh h)) := by rw [hF_1]; refine ⟨?_, ?_, ?_, ?_, ?_, ?_, ?_⟩ <;> first | (intro j hj; simp [u2, va_up, hitS, hS.1 j hj, hS.2.1 j hj]; done) | (simp [u2, va_up, sh, hitS, hS.2.2.1, hS.2.2.2.1, hS.2.2.2.2.1, hS.2.2.2.2.2.1, hS.2.2.2.2.2.2]; done)
      have hf := hf.trans hg_1
      have hB := hg_1.b ha hb hB
      refine wp_iload_n dX7_fall_20 rfl 3 rfl ?_
      refine wp_iconst (v := 1) dX7_fall_21 (by decide) ?_
      refine wp_iload_n dX7_fall_22 rfl 2 rfl ?_
      refine wp_ishl dX7_fall_23 ?_
      refine wp_ior dX7_fall_24 ?_
      refine wp_istore [1, 2, 3, 4, 5, 0] (by decide) rfl rfl rfl dX7_fall_25 ?_
      refine wp_iconst (v := 0) dX7_fall_27 (by decide) ?_
      refine wp_istore [1, 2, 3, 4, 5, 6, 0] (by decide) rfl rfl rfl dX7_fall_28 ?_
      have lp : ∀ (nn : Nat) (i : Nat) (q : SV × Int32) (F1 A1 : mmF), (i ≤ B.1.2.2) → (fallP B (n + 1) S h fl = (List.range' i (B.1.2.2 - i)).foldl (stepL B (fallP B n) h) q) → (isS F1 A1 a q.1) → (fr a F A F1 A1) → B.1.2.2 - i < nn → WP hX7_fall X 144 30 [(0, .ref b), (1, .ref a), (2, .int (nI h)), (3, .int fl), (4, .int (nI d)), (5, .int q.2), (6, .int (nI i))] [] F1 A1 R G := by
        intro nn
        induction nn with
        | zero => intro i q F1 A1 _ _ _ _ hm; exact absurd hm (Nat.not_lt_zero _)
        | succ nn ih_lp =>
          intro i q F1 A1 hi hq hS hf hm_lp
          have hB := hf.b ha hb hB0
          refine wp_iload dX7_fall_30 6 rfl ?_
          refine wp_aload_n dX7_fall_32 rfl 0 rfl ?_
          refine wp_getI fX7_105 rfl (hb) (bo_l0 hb) dX7_fall_33 ?_
          refine wp_top (x' := nI B.1.2.2) (hB.1.2.2) ?_
          refine wp_icmp_ge 123 dX7_fall_36 (by decide) (fun c2 => ?_) (fun c2 => ?_)
          · replace c2 := (ix_le (a := B.1.2.2) (b := i) (rfl) (rfl) (by omega) (by omega)).mp c2
            refine wp_iload dX7_fall_123 5 rfl ?_
            exact wp_iret hC rfl rfl dX7_fall_125 (pI_ok (by rw [hq, show B.1.2.2 - i = 0 by omega]; exact ⟨rfl, hS, hf, rfl, rfl⟩))
          · replace c2 := mt (ix_le (a := B.1.2.2) (b := i) (rfl) (rfl) (by omega) (by omega)).mpr c2
            refine wp_aload_n dX7_fall_39 rfl 0 rfl ?_
            refine wp_getO (q := b + 7) fX7_108 hR rfl (hb) (bo_l0 hb) (by decide) rfl dX7_fall_40 ?_
            refine wp_iload dX7_fall_43 6 rfl ?_
            refine wp_iald i (rfl) (bo_k7 hb) (bo_l7 hb) (bo_i7 hb (by omega)) dX7_fall_45 ?_
            refine wp_top (x' := B.2 7 i) ((hB.2.2.2 i (by omega)).1) ?_
            refine wp_iload_n dX7_fall_46 rfl 2 rfl ?_
            refine wp_icmp_eq 53 dX7_fall_47 (by decide) (fun c3 => ?_) (fun c3 => ?_)
            · refine wp_aload_n dX7_fall_53 rfl 0 rfl ?_
              refine wp_getO (q := b + 8) fX7_111 hR rfl (hb) (bo_l0 hb) (by decide) rfl dX7_fall_54 ?_
              refine wp_iload dX7_fall_57 6 rfl ?_
              refine wp_iald i (rfl) (bo_k8 hb) (bo_l8 hb) (bo_i8 hb (by omega)) dX7_fall_59 ?_
              refine wp_top (x' := nI (jn B i)) (((hB.2.2.2 i (by omega)).2.1).trans (jn_ok hw (by omega)).1) ?_
              refine wp_istore [1, 2, 3, 4, 5, 6, 7, 0] (by decide) rfl rfl rfl dX7_fall_60 ?_
              refine wp_aload_n dX7_fall_62 rfl 0 rfl ?_
              refine wp_getO (q := b + 9) fX7_114 hR rfl (hb) (bo_l0 hb) (by decide) rfl dX7_fall_63 ?_
              refine wp_iload dX7_fall_66 6 rfl ?_
              refine wp_iald i (rfl) (bo_k9 hb) (bo_l9 hb) (bo_i9 hb (by omega)) dX7_fall_68 ?_
              refine wp_top (x' := B.2 9 i) ((hB.2.2.2 i (by omega)).2.2) ?_
              refine wp_iconst (v := 1) dX7_fall_69 (by decide) ?_
              refine wp_icmp_ne 83 dX7_fall_70 (by decide) (fun c4 => ?_) (fun c4 => ?_)
              · refine wp_aload_n dX7_fall_83 rfl 1 rfl ?_
                refine wp_iload dX7_fall_84 7 rfl ?_
                refine wp_callP (mm_siteV (av := [.int (nI (jn B i))]) hC lX7_72 (ha) (st_l0 ha) ⟨_, rfl, rfl⟩ rfl rfl (Nat.le_of_ble_eq_true rfl) dX7_fall_86) (cS_isUp l (k + n + 2) _ _ _ _ _ _ _ ha hS) (by omega) (by decide) ?_
                refine wp_if_eq 117 dX7_fall_89 (by decide) (fun c5 => ?_) (fun c5 => ?_)
                · rw [upP_eq] at c5
                  refine wp_iinc (v := nI (i + 1)) 6 rfl (by exact nI_1 i) [1, 2, 3, 4, 5, 6, 0, 8] (by decide) rfl rfl rfl dX7_fall_117 ?_
                  refine wp_goto 30 dX7_fall_120 (by decide) ?_
                  refine wp_lv [0, 1, 2, 3, 4, 5, 6] rfl ?_
                  exact ih_lp (i + 1) q F1 A1 (by omega) (hq.trans (stepL_go (by omega) (by unfold stepL; simp [*]))) hS hf (by omega)
                · rw [upP_eq, Classical.not_not] at c5
                  refine wp_iload dX7_fall_92 5 rfl ?_
                  refine wp_iload dX7_fall_94 7 rfl ?_
                  refine wp_callP (mm_siteSN (av := [.int q.2, .int (nI (jn B i))]) hC lX7_63 rfl rfl (Nat.le_of_ble_eq_true rfl) dX7_fall_96) (c_X9_bit l (k + n + 3) _ _ _ _ _ _) (by omega) (by decide) ?_
                  refine wp_if_ne 117 dX7_fall_99 (by decide) (fun c6 => ?_) (fun c6 => ?_)
                  · refine wp_iinc (v := nI (i + 1)) 6 rfl (by exact nI_1 i) [1, 2, 3, 4, 5, 6, 0, 8] (by decide) rfl rfl rfl dX7_fall_117 ?_
                    refine wp_goto 30 dX7_fall_120 (by decide) ?_
                    refine wp_lv [0, 1, 2, 3, 4, 5, 6] rfl ?_
                    exact ih_lp (i + 1) q F1 A1 (by omega) (hq.trans (stepL_go (by omega) (by unfold stepL; simp [*]))) hS hf (by omega)
                  · refine wp_aload_n dX7_fall_102 rfl 0 rfl ?_
                    refine wp_aload_n dX7_fall_103 rfl 1 rfl ?_
                    refine wp_iload dX7_fall_104 7 rfl ?_
                    refine wp_iload dX7_fall_106 5 rfl ?_
                    refine wp_iload dX7_fall_108 4 rfl ?_
                    refine wp_iconst (v := 1) dX7_fall_110 (by decide) ?_
                    refine wp_iadd dX7_fall_111 ?_
                    refine wp_top (x' := nI (d + 1)) (nI_1 d) ?_
                    refine wp_callI (mm_siteS (av := [.ref b, .ref a, .int (nI (jn B i)), .int q.2, .int (nI (d + 1))]) hC lX7_101 rfl rfl (Nat.le_of_ble_eq_true rfl) dX7_fall_112) (ih _ _ q.1 (jn B i) (d + 1) q.2 (by omega) (by have := (jn_ok hw (i := i) (by omega)).2; omega) hS hB) (by omega) (by decide) ?_
                    rintro _ F_2 A_2 _ _ ⟨rfl, hS, hg_2, rfl, rfl⟩
                    have hf := hf.trans hg_2
                    have hB := hg_2.b ha hb hB
                    refine wp_istore [1, 2, 3, 4, 5, 0, 7, 8] (by decide) rfl rfl rfl dX7_fall_115 ?_
                    refine wp_iinc (v := nI (i + 1)) 6 rfl (by exact nI_1 i) [1, 2, 3, 4, 5, 6, 0, 8] (by decide) rfl rfl rfl dX7_fall_117 ?_
                    refine wp_goto 30 dX7_fall_120 (by decide) ?_
                    refine wp_lv [0, 1, 2, 3, 4, 5, 6] rfl ?_
                    exact ih_lp (i + 1) (fallP B n q.1 (jn B i) q.2) F_2 A_2 (by omega) (hq.trans (stepL_go (by omega) (by unfold stepL; simp [*]))) hS hf (by omega)
              · refine wp_aload_n dX7_fall_73 rfl 1 rfl ?_
                refine wp_iload dX7_fall_74 7 rfl ?_
                refine wp_callI (mm_siteV (av := [.int (nI (jn B i))]) hC lX7_117 (ha) (st_l0 ha) ⟨_, rfl, rfl⟩ rfl rfl (Nat.le_of_ble_eq_true rfl) dX7_fall_76) (c_X7_setUp l (k + n + 1) _ _ _ _ _ _ _ hR ha hS (by have := (jn_ok hw (i := i) (by omega)).2; omega)) (by omega) (by decide) ?_
                rintro _ F_3 A_3 _ _ ⟨rfl, hS, hg_3, rfl, rfl⟩
                have hf := hf.trans hg_3
                have hB := hg_3.b ha hb hB
                refine wp_pop dX7_fall_79 rfl ?_
                refine wp_goto 117 dX7_fall_80 (by decide) ?_
                refine wp_iinc (v := nI (i + 1)) 6 rfl (by exact nI_1 i) [1, 2, 3, 4, 5, 6, 0, 8] (by decide) rfl rfl rfl dX7_fall_117 ?_
                refine wp_goto 30 dX7_fall_120 (by decide) ?_
                refine wp_lv [0, 1, 2, 3, 4, 5, 6] rfl ?_
                exact ih_lp (i + 1) (setS q.1 (jn B i), q.2) F_3 A_3 (by omega) (hq.trans (stepL_go (by omega) (by unfold stepL; simp [*]))) hS hf (by omega)
            · refine wp_goto 117 dX7_fall_50 (by decide) ?_
              refine wp_iinc (v := nI (i + 1)) 6 rfl (by exact nI_1 i) [1, 2, 3, 4, 5, 6, 0] (by decide) rfl rfl rfl dX7_fall_117 ?_
              refine wp_goto 30 dX7_fall_120 (by decide) ?_
              exact ih_lp (i + 1) q F1 A1 (by omega) (hq.trans (stepL_go (by omega) (by unfold stepL; simp [*]))) hS hf (by omega)
      exact lp (B.1.2.2 + 1) 0 ((S.1, S.2.1, va_up S.2.2 2 (S.2.2 2 ||| sh h)), fl ||| sh h) F_1 A (Nat.zero_le _) rfl hS hf (by omega)
    · replace c1 := mt (ix_lt (a := d) (b := 5) (rfl) (rfl) (by omega) (by omega)).mpr c1
      exact absurd c1 (by omega)
set_option maxRecDepth 100000 in
set_option maxHeartbeats 600000 in
theorem c_X7_strike (l : Launch) (k : Nat) (F A : mmF) (R : mmR) (G : mmG) (a b t h : Nat) (S : SV) (B : BV) (hR : mm_RL R) (ha : mm_K a = 7) (hb : mm_K b = 1) (hS : isS F A a S) (hB : isB F A b B) (hw : wfB B) (ht : t < B.1.2.1) (hh : h < B.1.1) : Meets l hX7_strike (k + 10) 144 144 [.ref a, .ref b, .int (nI t), .int (nI h)] F A R G (pI (fun v F1 A1 R1 G1 => v = (strikeP B S t h).2 ∧ isS F1 A1 a (strikeP B S t h).1 ∧ fr a F A F1 A1 ∧ R = R1 ∧ G = G1)) := by
  refine mm_start rfl (Nat.le_of_ble_eq_true rfl) (fun X hC => ?_)
  show WP hX7_strike X 144 0 [(0, .ref a), (1, .ref b), (2, .int (nI t)), (3, .int (nI h))] [] F A R G
  have hf := fr.refl a F A
  have hw1 := hw.1
  refine wp_aload_n dX7_strike_0 rfl 0 rfl ?_
  refine wp_getO (q := a + 1) fX7_9 hR rfl (ha) (st_l0 ha) (by decide) rfl dX7_strike_1 ?_
  refine wp_iload_n dX7_strike_4 rfl 3 rfl ?_
  refine wp_dup2 dX7_strike_5 rfl rfl ?_
  refine wp_iald h (rfl) ((st_f ha).1.1) (st_l1 ha) (st_i1 ha (by omega)) dX7_strike_6 ?_
  refine wp_top (x' := S.1 h) (hS.1 h (by omega)) ?_
  refine wp_aload_n dX7_strike_7 rfl 1 rfl ?_
  refine wp_iload_n dX7_strike_8 rfl 2 rfl ?_
  refine wp_callP (mm_siteV (av := [.int (nI t)]) hC lX7_94 (hb) (bo_l0 hb) ⟨_, rfl, rfl⟩ rfl rfl (Nat.le_of_ble_eq_true rfl) dX7_strike_9) (cB_loosensBy l (k + 9) _ _ _ _ _ _ B hR hb hB hw ht) (by omega) (by decide) ?_
  refine wp_iadd dX7_strike_12 ?_
  refine wp_iast h (rfl) ((st_f ha).1.1) (st_l1 ha) (st_i1 ha (by omega)) dX7_strike_13 ?_
  obtain ⟨A_4, hA_4⟩ : ∃ z, z = u2 A (a + 1) h ((S.1 h) + (forceP (B.2 5 t) (B.2 6 t))) := ⟨_, rfl⟩
  rw [← hA_4]
  have hg_4 : fr a F A F A_4 := by rw [hA_4]; exact ⟨fun r hr => by first | rfl | simp [u2, va_up, hr], fun r hr hr2 => by first | rfl | simp [u2, va_up, hr, hr2]⟩
  have hS : isS F A_4 a (va_up S.1 h (S.1 h + forceP (B.2 5 t) (B.2 6 t)), S.2.1, S.2.2) := by rw [hA_4]; refine ⟨?_, ?_, ?_, ?_, ?_, ?_, ?_⟩ <;> first | (intro j hj; simp [u2, va_up, hitS, hS.1 j hj, hS.2.1 j hj]; done) | (simp [u2, va_up, sh, hitS, hS.2.2.1, hS.2.2.2.1, hS.2.2.2.2.1, hS.2.2.2.2.2.1, hS.2.2.2.2.2.2]; done)
  have hf := hf.trans hg_4
  have hB := hg_4.b ha hb hB
  refine wp_aload_n dX7_strike_14 rfl 0 rfl ?_
  refine wp_getO (q := a + 2) fX7_15 hR rfl (ha) (st_l0 ha) (by decide) rfl dX7_strike_15 ?_
  refine wp_iload_n dX7_strike_18 rfl 3 rfl ?_
  refine wp_dup2 dX7_strike_19 rfl rfl ?_
  refine wp_iald h (rfl) ((st_f ha).2.1.1) (st_l2 ha) (st_i2 ha (by omega)) dX7_strike_20 ?_
  refine wp_top (x' := (va_up S.1 h (S.1 h + forceP (B.2 5 t) (B.2 6 t)), S.2.1, S.2.2).2.1 h) (hS.2.1 h (by omega)) ?_
  refine wp_iconst (v := 1) dX7_strike_21 (by decide) ?_
  refine wp_iadd dX7_strike_22 ?_
  refine wp_iast h (rfl) ((st_f ha).2.1.1) (st_l2 ha) (st_i2 ha (by omega)) dX7_strike_23 ?_
  obtain ⟨A_5, hA_5⟩ : ∃ z, z = u2 A_4 (a + 2) h (((va_up S.1 h (S.1 h + forceP (B.2 5 t) (B.2 6 t)), S.2.1, S.2.2).2.1 h) + 1) := ⟨_, rfl⟩
  rw [← hA_5]
  have hg_5 : fr a F A_4 F A_5 := by rw [hA_5]; exact ⟨fun r hr => by first | rfl | simp [u2, va_up, hr], fun r hr hr2 => by first | rfl | simp [u2, va_up, hr, hr2]⟩
  have hS : isS F A_5 a (hitS B S t h) := by rw [hA_5]; refine ⟨?_, ?_, ?_, ?_, ?_, ?_, ?_⟩ <;> first | (intro j hj; simp [u2, va_up, hitS, hS.1 j hj, hS.2.1 j hj]; done) | (simp [u2, va_up, sh, hitS, hS.2.2.1, hS.2.2.2.1, hS.2.2.2.2.1, hS.2.2.2.2.2.1, hS.2.2.2.2.2.2]; done)
  have hf := hf.trans hg_5
  have hB := hg_5.b ha hb hB
  refine wp_aload_n dX7_strike_24 rfl 0 rfl ?_
  refine wp_getO (q := a + 1) fX7_9 hR rfl (ha) (st_l0 ha) (by decide) rfl dX7_strike_25 ?_
  refine wp_iload_n dX7_strike_28 rfl 3 rfl ?_
  refine wp_iald h (rfl) ((st_f ha).1.1) (st_l1 ha) (st_i1 ha (by omega)) dX7_strike_29 ?_
  refine wp_top (x' := (hitS B S t h).1 h) (hS.1 h (by omega)) ?_
  refine wp_aload_n dX7_strike_30 rfl 0 rfl ?_
  refine wp_aload_n dX7_strike_31 rfl 1 rfl ?_
  refine wp_iload_n dX7_strike_32 rfl 3 rfl ?_
  refine wp_callP (mm_siteV (av := [.ref b, .int (nI h)]) hC lX7_97 (ha) (st_l0 ha) ⟨_, rfl, rfl⟩ rfl rfl (Nat.le_of_ble_eq_true rfl) dX7_strike_33) (cS_firmness l (k + 8) _ _ _ _ _ _ _ (hitS B S t h) B hR ha hb hS hB hw hh) (by omega) (by decide) ?_
  refine wp_icmp_ge 41 dX7_strike_36 (by decide) (fun c1 => ?_) (fun c1 => ?_)
  · refine wp_aload_n dX7_strike_41 rfl 1 rfl ?_
    refine wp_getO (q := b + 3) fX7_45 hR rfl (hb) (bo_l0 hb) (by decide) rfl dX7_strike_42 ?_
    refine wp_iload_n dX7_strike_45 rfl 3 rfl ?_
    refine wp_iald h (rfl) (bo_k3 hb) (bo_l3 hb) (bo_i3 hb (by omega)) dX7_strike_46 ?_
    refine wp_top (x' := B.2 3 h) ((hB.2.1 h (hh)).2.2) ?_
    refine wp_iconst (v := 3) dX7_strike_47 (by decide) ?_
    refine wp_icmp_ne 83 dX7_strike_48 (by decide) (fun c2 => ?_) (fun c2 => ?_)
    · refine wp_aload_n dX7_strike_83 rfl 1 rfl ?_
      refine wp_aload_n dX7_strike_84 rfl 0 rfl ?_
      refine wp_iload_n dX7_strike_85 rfl 3 rfl ?_
      refine wp_iconst (v := 0) dX7_strike_86 (by decide) ?_
      refine wp_iconst (v := 0) dX7_strike_87 (by decide) ?_
      refine wp_callI (mm_siteS (av := [.ref b, .ref a, .int (nI h), .int 0, .int 0]) hC lX7_101 rfl rfl (Nat.le_of_ble_eq_true rfl) dX7_strike_88) (c_X7_fall l k _ _ _ _ B hR ha hb hw 5 _ _ (hitS B S t h) h 0 0 rfl (by omega) hS hB) (by omega) (by decide) ?_
      rintro _ F_6 A_6 _ _ ⟨rfl, hS, hg_6, rfl, rfl⟩
      have hf := hf.trans hg_6
      have hB := hg_6.b ha hb hB
      exact wp_iret hC rfl rfl dX7_strike_91 (pI_ok (by rw [show strikeP B S t h = fallP B 5 (hitS B S t h) h 0 from by unfold strikeP; simp [*]]; exact ⟨rfl, hS, hf, rfl, rfl⟩))
    · refine wp_aload_n dX7_strike_51 rfl 0 rfl ?_
      refine wp_getI fX7_22 rfl (ha) (st_l0 ha) dX7_strike_52 ?_
      refine wp_top (x' := (hitS B S t h).2.2 3) (hS.2.2.2.1) ?_
      refine wp_iload_n dX7_strike_55 rfl 3 rfl ?_
      refine wp_callP (mm_siteSN (av := [.int ((hitS B S t h).2.2 3), .int (nI h)]) hC lX7_63 rfl rfl (Nat.le_of_ble_eq_true rfl) dX7_strike_56) (c_X9_bit l (k + 9) _ _ _ _ _ _) (by omega) (by decide) ?_
      refine wp_if_ne 83 dX7_strike_59 (by decide) (fun c3 => ?_) (fun c3 => ?_)
      · change ¬ bt (S.2.2 3) (nI h) = 0 at c3
        refine wp_aload_n dX7_strike_83 rfl 1 rfl ?_
        refine wp_aload_n dX7_strike_84 rfl 0 rfl ?_
        refine wp_iload_n dX7_strike_85 rfl 3 rfl ?_
        refine wp_iconst (v := 0) dX7_strike_86 (by decide) ?_
        refine wp_iconst (v := 0) dX7_strike_87 (by decide) ?_
        refine wp_callI (mm_siteS (av := [.ref b, .ref a, .int (nI h), .int 0, .int 0]) hC lX7_101 rfl rfl (Nat.le_of_ble_eq_true rfl) dX7_strike_88) (c_X7_fall l k _ _ _ _ B hR ha hb hw 5 _ _ (hitS B S t h) h 0 0 rfl (by omega) hS hB) (by omega) (by decide) ?_
        rintro _ F_7 A_7 _ _ ⟨rfl, hS, hg_7, rfl, rfl⟩
        have hf := hf.trans hg_7
        have hB := hg_7.b ha hb hB
        exact wp_iret hC rfl rfl dX7_strike_91 (pI_ok (by rw [show strikeP B S t h = fallP B 5 (hitS B S t h) h 0 from by unfold strikeP; simp [*]]; exact ⟨rfl, hS, hf, rfl, rfl⟩))
      · change bt (S.2.2 3) (nI h) = 0 at c3
        refine wp_aload_n dX7_strike_62 rfl 0 rfl ?_
        refine wp_dup dX7_strike_63 rfl ?_
        refine wp_getI fX7_22 rfl (ha) (st_l0 ha) dX7_strike_64 ?_
        refine wp_top (x' := (hitS B S t h).2.2 3) (hS.2.2.2.1) ?_
        refine wp_iconst (v := 1) dX7_strike_67 (by decide) ?_
        refine wp_iload_n dX7_strike_68 rfl 3 rfl ?_
        refine wp_ishl dX7_strike_69 ?_
        refine wp_ior dX7_strike_70 ?_
        refine wp_putI fX7_22 fn_7_3 rfl (ha) (st_l0 ha) dX7_strike_71 ?_
        refine wp_aload_n dX7_strike_74 rfl 0 rfl ?_
        refine wp_getO (q := a + 1) fX7_9 hR rfl (ha) (st_l0 ha) (by decide) rfl dX7_strike_75 ?_
        refine wp_iload_n dX7_strike_78 rfl 3 rfl ?_
        refine wp_iconst (v := 0) dX7_strike_79 (by decide) ?_
        refine wp_iast h (rfl) ((st_f ha).1.1) (st_l1 ha) (st_i1 ha (by omega)) dX7_strike_80 ?_
        obtain ⟨F_8, hF_8⟩ : ∃ z, z = u2 F a 3 (((hitS B S t h).2.2 3) ||| (1 <<< ((nI h) &&& 31))) := ⟨_, rfl⟩
        rw [← hF_8]
        obtain ⟨A_8, hA_8⟩ : ∃ z, z = u2 A_5 (a + 1) h 0 := ⟨_, rfl⟩
        rw [← hA_8]
        have hg_8 : fr a F A_5 F_8 A_8 := by rw [hF_8, hA_8]; exact ⟨fun r hr => by first | rfl | simp [u2, va_up, hr], fun r hr hr2 => by first | rfl | simp [u2, va_up, hr, hr2]⟩
        have hS : isS F_8 A_8 a (va_up (hitS B S t h).1 h 0, (hitS B S t h).2.1, va_up S.2.2 3 (S.2.2 3 ||| sh h)) := by rw [hF_8, hA_8]; refine ⟨?_, ?_, ?_, ?_, ?_, ?_, ?_⟩ <;> first | (intro j hj; simp [u2, va_up, hitS, hS.1 j hj, hS.2.1 j hj]; done) | (simp [u2, va_up, sh, hitS, hS.2.2.1, hS.2.2.2.1, hS.2.2.2.2.1, hS.2.2.2.2.2.1, hS.2.2.2.2.2.2]; done)
        have hf := hf.trans hg_8
        have hB := hg_8.b ha hb hB
        refine wp_iconst (v := 0) dX7_strike_81 (by decide) ?_
        exact wp_iret hC rfl rfl dX7_strike_82 (pI_ok (by rw [show strikeP B S t h = ((va_up (hitS B S t h).1 h 0, (hitS B S t h).2.1, va_up S.2.2 3 (S.2.2 3 ||| sh h)), 0) from by unfold strikeP; simp [*]]; exact ⟨rfl, hS, hf, rfl, rfl⟩))
  · refine wp_iconst (v := 0) dX7_strike_39 (by decide) ?_
    exact wp_iret hC rfl rfl dX7_strike_40 (pI_ok (by rw [show strikeP B S t h = (hitS B S t h, 0) from by unfold strikeP; simp [*]]; exact ⟨rfl, hS, hf, rfl, rfl⟩))

set_option maxRecDepth 100000 in
set_option maxHeartbeats 600000 in
theorem c_X7_throwBy (l : Launch) (k : Nat) (F A : mmF) (R : mmR) (G : mmG) (a b t : Nat) (pl lk : Int32) (S : SV) (B : BV) (hR : mm_RL R) (ha : mm_K a = 7) (hb : mm_K b = 1) (hS : isS F A a S) (hB : isB F A b B) (hw : wfB B) (ht : t < B.1.2.1) : Meets l hX7_throwBy (k + 11) 144 144 [.ref a, .ref b, .int (nI t), .int pl, .int lk] F A R G (pI (fun v F1 A1 R1 G1 => v = (throwP B S t pl lk).2 ∧ isS F1 A1 a (throwP B S t pl lk).1 ∧ fr a F A F1 A1 ∧ R = R1 ∧ G = G1)) := by
  refine mm_start rfl (Nat.le_of_ble_eq_true rfl) (fun X hC => ?_)
  show WP hX7_throwBy X 144 0 [(0, .ref a), (1, .ref b), (2, .int (nI t)), (3, .int pl), (4, .int lk)] [] F A R G
  have hf := fr.refl a F A
  have hw1 := hw.1
  refine wp_aload_n dX7_throwBy_0 rfl 1 rfl ?_
  refine wp_aload_n dX7_throwBy_1 rfl 1 rfl ?_
  refine wp_iload_n dX7_throwBy_2 rfl 2 rfl ?_
  refine wp_iload_n dX7_throwBy_3 rfl 3 rfl ?_
  refine wp_iload dX7_throwBy_4 4 rfl ?_
  refine wp_aload_n dX7_throwBy_6 rfl 0 rfl ?_
  refine wp_getI fX7_28 rfl (ha) (st_l0 ha) dX7_throwBy_7 ?_
  refine wp_top (x' := S.2.2 5) (hS.2.2.2.2.2.1) ?_
  refine wp_callP (mm_siteV (av := [.int (nI t), .int pl, .int lk, .int (S.2.2 5)]) hC lX7_79 (hb) (bo_l0 hb) ⟨_, rfl, rfl⟩ rfl rfl (Nat.le_of_ble_eq_true rfl) dX7_throwBy_10) (cB_landing l (k + 9) _ _ _ _ _ _ _ _ _ B hR hb hB hw ht) (by omega) (by decide) ?_
  refine wp_callP (e := landH B S t pl lk) (mm_siteV (av := [.int (landP (B.2 4 t) (B.2 6 t) pl lk (S.2.2 5))]) hC lX7_83 (hb) (bo_l0 hb) ⟨_, rfl, rfl⟩ rfl rfl (Nat.le_of_ble_eq_true rfl) dX7_throwBy_13) (c_X1_huskAt l (k + 10) _ _ _ _ _ _ B hR hb hB hw) (by omega) (by decide) ?_
  have hl := hAt_or (B.2 1) (landP (B.2 4 t) (B.2 6 t) pl lk (S.2.2 5)) B.1.1 0
  change landH B S t pl lk = -9 ∨ _ at hl
  rcases hl with hx | ⟨j, -, hj, hx, -⟩
  · refine wp_top (x' := (-9)) (by exact hx) ?_
    refine wp_istore [1, 2, 3, 4, 5, 0] (by decide) rfl rfl rfl dX7_throwBy_16 ?_
    refine wp_iload dX7_throwBy_18 5 rfl ?_
    refine wp_bipush (v := (-9)) dX7_throwBy_20 (by decide) ?_
    refine wp_icmp_eq 34 dX7_throwBy_22 (by decide) (fun c1 => ?_) (fun c1 => ?_)
    · refine wp_iconst (v := 0) dX7_throwBy_34 (by decide) ?_
      exact wp_iret hC rfl rfl dX7_throwBy_35 (pI_ok (by rw [throwP_off hx]; exact ⟨rfl, hS, hf, rfl, rfl⟩))
    · exact absurd rfl c1
  · refine wp_top (x' := nI j) (by exact hx) ?_
    have hx : landH B S t pl lk = nI j := hx
    refine wp_istore [1, 2, 3, 4, 5, 0] (by decide) rfl rfl rfl dX7_throwBy_16 ?_
    refine wp_iload dX7_throwBy_18 5 rfl ?_
    refine wp_bipush (v := (-9)) dX7_throwBy_20 (by decide) ?_
    refine wp_icmp_eq 34 dX7_throwBy_22 (by decide) (fun c2 => ?_) (fun c2 => ?_)
    · exact absurd c2 (nI_ne9 (by omega))
    · refine wp_aload_n dX7_throwBy_25 rfl 0 rfl ?_
      refine wp_iload dX7_throwBy_26 5 rfl ?_
      refine wp_callP (mm_siteV (av := [.int (nI j)]) hC lX7_72 (ha) (st_l0 ha) ⟨_, rfl, rfl⟩ rfl rfl (Nat.le_of_ble_eq_true rfl) dX7_throwBy_28) (cS_isUp l (k + 9) _ _ _ _ _ _ _ ha hS) (by omega) (by decide) ?_
      refine wp_if_ne 36 dX7_throwBy_31 (by decide) (fun c3 => ?_) (fun c3 => ?_)
      · rw [upP_eq, Classical.not_not] at c3
        refine wp_aload_n dX7_throwBy_36 rfl 0 rfl ?_
        refine wp_aload_n dX7_throwBy_37 rfl 1 rfl ?_
        refine wp_iload_n dX7_throwBy_38 rfl 2 rfl ?_
        refine wp_iload dX7_throwBy_39 5 rfl ?_
        refine wp_callI (mm_siteV (av := [.ref b, .int (nI t), .int (nI j)]) hC lX7_86 (ha) (st_l0 ha) ⟨_, rfl, rfl⟩ rfl rfl (Nat.le_of_ble_eq_true rfl) dX7_throwBy_41) (c_X7_strike l k _ _ _ _ _ _ t j S B hR ha hb hS hB hw ht (by omega)) (by omega) (by decide) ?_
        rintro _ F_9 A_9 _ _ ⟨rfl, hS, hg_9, rfl, rfl⟩
        have hf := hf.trans hg_9
        have hB := hg_9.b ha hb hB
        exact wp_iret hC rfl rfl dX7_throwBy_44 (pI_ok (by rw [throwP_at hx (by omega), if_pos c3]; exact ⟨rfl, hS, hf, rfl, rfl⟩))
      · rw [upP_eq] at c3
        refine wp_iconst (v := 0) dX7_throwBy_34 (by decide) ?_
        exact wp_iret hC rfl rfl dX7_throwBy_35 (pI_ok (by rw [throwP_at hx (by omega), if_neg c3]; exact ⟨rfl, hS, hf, rfl, rfl⟩))

