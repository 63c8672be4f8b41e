theorem inP_0 {x a b : Int32} (h : inP x a b = 0) : x < a ∨ (¬ x < a ∧ b < x) := by
  unfold inP at h; split at h
  · rename_i h1; exact Or.inl h1
  · rename_i h1
    split at h
    · rename_i h2; exact Or.inr ⟨h1, h2⟩
    · exact absurd h (by decide)
theorem inP_1 {x a b : Int32} (h : ¬ inP x a b = 0) : ¬ x < a ∧ ¬ b < x := by
  unfold inP at h; split at h
  · exact absurd rfl h
  · rename_i h1
    split at h
    · exact absurd rfl h
    · rename_i h2; exact ⟨h1, h2⟩
theorem wWrite_no {Q : QV} {x : Int32} (h : inP x 0 255 = 0) : wWrite Q x = (Q, -2) := by
  unfold wWrite
  rcases inP_0 h with h | ⟨h, h2⟩
  · rw [if_pos h]
  · rw [if_neg h, if_pos h2]
set_option maxRecDepth 100000 in
set_option maxHeartbeats 600000 in
theorem c_X10_write (l : Launch) (k : Nat) (F A : mmF) (R : mmR) (G : mmG) (x : Int32) (Q : QV) (hX : RepM F A R G Q) (hwf : wfQ Q) : Meets l hX10_write (k + 1) 144 144 [.ref 123, .int x] F A R G (pI (fun v F1 A1 R1 G1 => v = (wWrite Q x).2 ∧ RepM F1 A1 R1 G1 (wWrite Q x).1 ∧ frY F A R G F1 A1 R1 G1)) := by
  refine mm_start rfl (Nat.le_of_ble_eq_true rfl) (fun X hC => ?_)
  show WP hX10_write X 144 0 [(0, .ref 123), (1, .int x)] [] F A R G
  obtain ⟨hw60, hw, hwS, hwA, hwE, hwK⟩ := id hwf
  have hw1 := hw.1
  refine wp_aload_n dX10_write_0 rfl 0 rfl ?_
  refine wp_iconst (v := 0) dX10_write_1 (by decide) ?_
  refine wp_putI fX10_71 fn_10_0 rfl (rfl) (by decide) dX10_write_2 ?_
  obtain ⟨F0, hF0⟩ : ∃ z, z = u2 F 123 0 0 := ⟨_, rfl⟩
  rw [← hF0]
  have hs0 : scN F A F0 A := by rw [hF0]; exact scN.F (by decide)
  obtain ⟨hX0, hy0⟩ := hX.scr hs0
  obtain ⟨hR, ⟨hn, ht⟩, hM, hP, ⟨ha, hac⟩, ⟨he, hes⟩, hk, hg⟩ := id hX0
  refine wp_iload_n dX10_write_5 rfl 1 rfl ?_
  refine wp_i2l dX10_write_6 ?_
  refine wp_lconst (v := 0) dX10_write_7 rfl ?_
  refine wp_topL (x' := (0 : Int32).toInt64) (by decide) ?_
  refine wp_ldc2 (v := 255) k_857 dX10_write_8 ?_
  refine wp_topL (x' := (255 : Int32).toInt64) (by decide) ?_
  refine wp_callP (e := inP x 0 255) (mm_siteS (av := [.long x.toInt64, .long ((0 : Int32).toInt64), .long ((255 : Int32).toInt64)]) hC lX10_78 rfl rfl (Nat.le_of_ble_eq_true rfl) dX10_write_11) (c_X10_in l k _ _ _ _ x 0 255) (by omega) (by decide) ?_
  refine wp_if_ne 20 dX10_write_14 (by decide) (fun c1 => ?_) (fun c1 => ?_)
  · refine wp_aload_n dX10_write_20 rfl 0 rfl ?_
    refine wp_getI fX10_87 rfl (rfl) (by decide) dX10_write_21 ?_
    refine wp_top (x' := nI Q.1.1) (hn) ?_
    refine wp_bipush (v := 60) dX10_write_24 (by decide) ?_
    refine wp_icmp_ne 32 dX10_write_26 (by decide) (fun c2 => ?_) (fun c2 => ?_)
    · replace c2 := mt (ix_eq (a := Q.1.1) (b := 60) (rfl) (rfl) (by omega) (by omega)).mpr c2
      refine wp_aload_n dX10_write_32 rfl 0 rfl ?_
      refine wp_getO (q := 124) fX10_7 hR rfl (rfl) (by decide) (by decide) rfl dX10_write_33 ?_
      refine wp_aload_n dX10_write_36 rfl 0 rfl ?_
      refine wp_getI fX10_87 rfl (rfl) (by decide) dX10_write_37 ?_
      refine wp_top (x' := nI Q.1.1) (hn) ?_
      refine wp_iload_n dX10_write_40 rfl 1 rfl ?_
      refine wp_iast Q.1.1 (rfl) (rfl) (by decide) ((show Q.1.1 < 60 from by omega)) dX10_write_41 ?_
      refine wp_aload_n dX10_write_42 rfl 0 rfl ?_
      refine wp_dup dX10_write_43 rfl ?_
      refine wp_getI fX10_87 rfl (rfl) (by decide) dX10_write_44 ?_
      refine wp_top (x' := nI Q.1.1) (hn) ?_
      refine wp_iconst (v := 1) dX10_write_47 (by decide) ?_
      refine wp_iadd dX10_write_48 ?_
      refine wp_top (x' := nI (Q.1.1 + 1)) (nI_1 Q.1.1) ?_
      refine wp_putI fX10_87 fn_10_2 rfl (rfl) (by decide) dX10_write_49 ?_
      refine wp_aload_n dX10_write_52 rfl 0 rfl ?_
      refine wp_getI fX10_87 rfl (rfl) (by decide) dX10_write_53 ?_
      refine wp_top (x' := nI (Q.1.1 + 1)) (by rw [u2_row]; exact va_up_self _ _ _) ?_
      exact wp_iret hC rfl rfl dX10_write_56 (pI_ok (by
    unfold wWrite; rw [if_neg (inP_1 c1).1, if_neg (inP_1 c1).2, if_pos (by omega)]
    obtain ⟨hX1, hy1⟩ := hX0.tx (F1 := u2 F0 123 2 (nI (Q.1.1 + 1))) (A1 := u2 A 124 Q.1.1 x) (n := Q.1.1 + 1) (tx := va_up Q.1.2 Q.1.1 x) ⟨fun r hr => u2_ne hr, fun j _ hj => by rw [u2_row, va_up_ne _ _ hj], fun r _ hr _ _ => u2_ne hr⟩ (by rw [u2_row]; exact va_up_self _ _ _) (fun i hi => by
      rw [u2_row]
      by_cases e : i = Q.1.1
      · rw [e, va_up_self, va_up_self]
      · rw [va_up_ne _ _ e, va_up_ne _ _ e]; exact ht i (by omega))
    exact ⟨rfl, hX1, hy0.trans hy1⟩))
    · replace c2 := (ix_eq (a := Q.1.1) (b := 60) (rfl) (rfl) (by omega) (by omega)).mp c2
      refine wp_bipush (v := (-4)) dX10_write_29 (by decide) ?_
      exact wp_iret hC rfl rfl dX10_write_31 (pI_ok (by unfold wWrite; rw [if_neg (inP_1 c1).1, if_neg (inP_1 c1).2, if_neg (by omega)]; exact ⟨rfl, hX0, hy0⟩))
  · refine wp_bipush (v := (-2)) dX10_write_17 (by decide) ?_
    exact wp_iret hC rfl rfl dX10_write_19 (pI_ok (by rw [wWrite_no c1]; exact ⟨rfl, hX0, hy0⟩))

set_option maxRecDepth 100000 in
set_option maxHeartbeats 600000 in
theorem c_X10_wipe (l : Launch) (k : Nat) (F A : mmF) (R : mmR) (G : mmG)  (Q : QV) (hX : RepM F A R G Q) (hwf : wfQ Q) : Meets l hX10_wipe k 144 144 [.ref 123] F A R G (pI (fun v F1 A1 R1 G1 => v = (wWipe Q).2 ∧ RepM F1 A1 R1 G1 (wWipe Q).1 ∧ frY F A R G F1 A1 R1 G1)) := by
  refine mm_start rfl (Nat.le_of_ble_eq_true rfl) (fun X hC => ?_)
  show WP hX10_wipe X 144 0 [(0, .ref 123)] [] F A R G
  obtain ⟨hw60, hw, hwS, hwA, hwE, hwK⟩ := id hwf
  have hw1 := hw.1
  refine wp_aload_n dX10_wipe_0 rfl 0 rfl ?_
  refine wp_iconst (v := 0) dX10_wipe_1 (by decide) ?_
  refine wp_putI fX10_71 fn_10_0 rfl (rfl) (by decide) dX10_wipe_2 ?_
  obtain ⟨F0, hF0⟩ : ∃ z, z = u2 F 123 0 0 := ⟨_, rfl⟩
  rw [← hF0]
  have hs0 : scN F A F0 A := by rw [hF0]; exact scN.F (by decide)
  obtain ⟨hX0, hy0⟩ := hX.scr hs0
  obtain ⟨hR, ⟨hn, ht⟩, hM, hP, ⟨ha, hac⟩, ⟨he, hes⟩, hk, hg⟩ := id hX0
  refine wp_aload_n dX10_wipe_5 rfl 0 rfl ?_
  refine wp_getI fX10_87 rfl (rfl) (by decide) dX10_wipe_6 ?_
  refine wp_top (x' := nI Q.1.1) (hn) ?_
  refine wp_istore_n [1, 0] (by decide) rfl rfl rfl dX10_wipe_9 rfl ?_
  refine wp_aload_n dX10_wipe_10 rfl 0 rfl ?_
  refine wp_iconst (v := 0) dX10_wipe_11 (by decide) ?_
  refine wp_putI fX10_87 fn_10_2 rfl (rfl) (by decide) dX10_wipe_12 ?_
  refine wp_iload_n dX10_wipe_15 rfl 1 rfl ?_
  exact wp_iret hC rfl rfl dX10_wipe_16 (pI_ok (by
    obtain ⟨hX1, hy1⟩ := hX0.tx (F1 := u2 F0 123 2 0) (A1 := A) (n := 0) (tx := Q.1.2) ⟨fun r hr => u2_ne hr, fun j _ hj => by rw [u2_row, va_up_ne _ _ hj], fun r _ hr _ _ => rfl⟩ (by rw [u2_row]; exact va_up_self _ _ _) (fun i hi => absurd hi (Nat.not_lt_zero _))
    exact ⟨rfl, hX1, hy0.trans hy1⟩))

set_option maxRecDepth 100000 in
set_option maxHeartbeats 600000 in
theorem c_X10_fault (l : Launch) (k : Nat) (F A : mmF) (R : mmR) (G : mmG)  (Q : QV) (hX : RepM F A R G Q) (hwf : wfQ Q) : Meets l hX10_fault (k + 5) 144 144 [.ref 123] F A R G (pI (fun v F1 A1 R1 G1 => v = wFault Q ∧ RepM F1 A1 R1 G1 Q ∧ frY F A R G F1 A1 R1 G1)) := by
  refine mm_start rfl (Nat.le_of_ble_eq_true rfl) (fun X hC => ?_)
  show WP hX10_fault X 144 0 [(0, .ref 123)] [] F A R G
  obtain ⟨hw60, hw, hwS, hwA, hwE, hwK⟩ := id hwf
  have hw1 := hw.1
  refine wp_aload_n dX10_fault_0 rfl 0 rfl ?_
  refine wp_iconst (v := 0) dX10_fault_1 (by decide) ?_
  refine wp_putI fX10_71 fn_10_0 rfl (rfl) (by decide) dX10_fault_2 ?_
  obtain ⟨F0, hF0⟩ : ∃ z, z = u2 F 123 0 0 := ⟨_, rfl⟩
  rw [← hF0]
  have hs0 : scN F A F0 A := by rw [hF0]; exact scN.F (by decide)
  obtain ⟨hX0, hy0⟩ := hX.scr hs0
  obtain ⟨hR, ⟨hn, ht⟩, hM, hP, ⟨ha, hac⟩, ⟨he, hes⟩, hk, hg⟩ := id hX0
  refine wp_aload_n dX10_fault_5 rfl 0 rfl ?_
  refine wp_callI (mm_siteV (av := []) hC lX10_131 (rfl) (by decide) ⟨_, rfl, rfl⟩ rfl rfl (Nat.le_of_ble_eq_true rfl) dX10_fault_6) (c_X10_readFair l k _ _ _ _ Q.1.1 Q.1.2 hR hw60 hn ht) (by omega) (by decide) ?_
  rintro _ F1 A1 _ _ ⟨rfl, hs1, hrd, rfl, rfl⟩
  exact wp_iret hC rfl rfl dX10_fault_9 (pI_ok (by obtain ⟨hX1, hy1⟩ := hX0.scr hs1; exact ⟨rfl, hX1, hy0.trans hy1⟩))

set_option maxRecDepth 100000 in
set_option maxHeartbeats 600000 in
theorem c_X10_about (l : Launch) (k : Nat) (F A : mmF) (R : mmR) (G : mmG) (x : Int32) (Q : QV) (hX : RepM F A R G Q) (hwf : wfQ Q) : Meets l hX10_about k 144 144 [.ref 123, .int x] F A R G (pI (fun v F1 A1 R1 G1 => v = wAbout Q x ∧ RepM F1 A1 R1 G1 Q ∧ frY F A R G F1 A1 R1 G1)) := by
  refine mm_start rfl (Nat.le_of_ble_eq_true rfl) (fun X hC => ?_)
  show WP hX10_about X 144 0 [(0, .ref 123), (1, .int x)] [] F A R G
  obtain ⟨hw60, hw, hwS, hwA, hwE, hwK⟩ := id hwf
  have hw1 := hw.1
  refine wp_aload_n dX10_about_0 rfl 0 rfl ?_
  refine wp_iconst (v := 0) dX10_about_1 (by decide) ?_
  refine wp_putI fX10_71 fn_10_0 rfl (rfl) (by decide) dX10_about_2 ?_
  obtain ⟨F0, hF0⟩ : ∃ z, z = u2 F 123 0 0 := ⟨_, rfl⟩
  rw [← hF0]
  have hs0 : scN F A F0 A := by rw [hF0]; exact scN.F (by decide)
  obtain ⟨hX0, hy0⟩ := hX.scr hs0
  obtain ⟨hR, ⟨hn, ht⟩, hM, hP, ⟨ha, hac⟩, ⟨he, hes⟩, hk, hg⟩ := id hX0
  refine wp_iload_n dX10_about_5 rfl 1 rfl ?_
  rcases sw_cases x 8 (by decide) with hsw | ⟨j, hj, rfl⟩
  · refine wp_tableOut 110 dX10_about_6 hsw (by decide) ?_
    refine wp_bipush (v := (-2)) dX10_about_110 (by decide) ?_
    exact wp_iret hC rfl rfl dX10_about_112 (pI_ok ⟨(by unfold wAbout; simp only [sw_ne hsw (by decide) 0 (by decide), sw_ne hsw (by decide) 1 (by decide), sw_ne hsw (by decide) 2 (by decide), sw_ne hsw (by decide) 3 (by decide), sw_ne hsw (by decide) 4 (by decide), sw_ne hsw (by decide) 5 (by decide), sw_ne hsw (by decide) 6 (by decide), sw_ne hsw (by decide) 7 (by decide), sw_ne hsw (by decide) 8 (by decide), if_false]), hX0, hy0⟩)
  · rcases (show j = 0 ∨ j = 1 ∨ j = 2 ∨ j = 3 ∨ j = 4 ∨ j = 5 ∨ j = 6 ∨ j = 7 ∨ j = 8 by omega) with rfl | rfl | rfl | rfl | rfl | rfl | rfl | rfl | rfl
    · refine wp_tableIn (off := 50) 56 dX10_about_6 (by decide) (by decide) (by decide) (by decide) ?_
      refine wp_aload_n dX10_about_56 rfl 0 rfl ?_
      refine wp_getI fX10_75 rfl (rfl) (by decide) dX10_about_57 ?_
      refine wp_top (x' := nI (qB Q).1.1) (hM.1) ?_
      exact wp_iret hC rfl rfl dX10_about_60 (pI_ok ⟨(by unfold wAbout; first | rfl | (simp; done) | (rw [if_pos rfl])), hX0, hy0⟩)
    · refine wp_tableIn (off := 55) 61 dX10_about_6 (by decide) (by decide) (by decide) (by decide) ?_
      refine wp_aload_n dX10_about_61 rfl 0 rfl ?_
      refine wp_getI fX10_82 rfl (rfl) (by decide) dX10_about_62 ?_
      refine wp_top (x' := nI (qB Q).1.2.1) (hM.2.1) ?_
      exact wp_iret hC rfl rfl dX10_about_65 (pI_ok ⟨(by unfold wAbout; first | rfl | (simp; done) | (rw [if_neg (by decide), if_pos rfl])), hX0, hy0⟩)
    · refine wp_tableIn (off := 60) 66 dX10_about_6 (by decide) (by decide) (by decide) (by decide) ?_
      refine wp_aload_n dX10_about_66 rfl 0 rfl ?_
      refine wp_getI fX10_134 rfl (rfl) (by decide) dX10_about_67 ?_
      refine wp_top (x' := nI (qB Q).1.2.2) (hM.2.2.1) ?_
      exact wp_iret hC rfl rfl dX10_about_70 (pI_ok ⟨(by unfold wAbout; first | rfl | (simp; done) | (rw [if_neg (by decide), if_neg (by decide), if_pos rfl])), hX0, hy0⟩)
    · refine wp_tableIn (off := 65) 71 dX10_about_6 (by decide) (by decide) (by decide) (by decide) ?_
      refine wp_aload_n dX10_about_71 rfl 0 rfl ?_
      refine wp_getO (q := 131) fX10_31 hR rfl (rfl) (by decide) (by decide) rfl dX10_about_72 ?_
      refine wp_bipush (v := 13) dX10_about_75 (by decide) ?_
      refine wp_iald 13 (rfl) (rfl) (by decide) ((show 13 < 15 from by omega)) dX10_about_77 ?_
      refine wp_top (x' := (qS Q).2.2 5) (hP 13 (by decide)) ?_
      exact wp_iret hC rfl rfl dX10_about_78 (pI_ok ⟨(by unfold wAbout; first | rfl | (simp; done) | (rw [if_neg (by decide), if_neg (by decide), if_neg (by decide), if_pos rfl])), hX0, hy0⟩)
    · refine wp_tableIn (off := 73) 79 dX10_about_6 (by decide) (by decide) (by decide) (by decide) ?_
      refine wp_aload_n dX10_about_79 rfl 0 rfl ?_
      refine wp_getO (q := 131) fX10_31 hR rfl (rfl) (by decide) (by decide) rfl dX10_about_80 ?_
      refine wp_bipush (v := 14) dX10_about_83 (by decide) ?_
      refine wp_iald 14 (rfl) (rfl) (by decide) ((show 14 < 15 from by omega)) dX10_about_85 ?_
      refine wp_top (x' := (qS Q).2.2 6) (hP 14 (by decide)) ?_
      exact wp_iret hC rfl rfl dX10_about_86 (pI_ok ⟨(by unfold wAbout; first | rfl | (simp; done) | (rw [if_neg (by decide), if_neg (by decide), if_neg (by decide), if_neg (by decide), if_pos rfl])), hX0, hy0⟩)
    · refine wp_tableIn (off := 81) 87 dX10_about_6 (by decide) (by decide) (by decide) (by decide) ?_
      refine wp_aload_n dX10_about_87 rfl 0 rfl ?_
      refine wp_getO (q := 131) fX10_31 hR rfl (rfl) (by decide) (by decide) rfl dX10_about_88 ?_
      refine wp_bipush (v := 12) dX10_about_91 (by decide) ?_
      refine wp_iald 12 (rfl) (rfl) (by decide) ((show 12 < 15 from by omega)) dX10_about_93 ?_
      refine wp_top (x' := (qS Q).2.2 2) (hP 12 (by decide)) ?_
      exact wp_iret hC rfl rfl dX10_about_94 (pI_ok ⟨(by unfold wAbout; first | rfl | (simp; done) | (rw [if_neg (by decide), if_neg (by decide), if_neg (by decide), if_neg (by decide), if_neg (by decide), if_pos rfl])), hX0, hy0⟩)
    · refine wp_tableIn (off := 89) 95 dX10_about_6 (by decide) (by decide) (by decide) (by decide) ?_
      refine wp_aload_n dX10_about_95 rfl 0 rfl ?_
      refine wp_getI fX10_141 rfl (rfl) (by decide) dX10_about_96 ?_
      refine wp_top (x' := nI (qA Q).length) (ha) ?_
      exact wp_iret hC rfl rfl dX10_about_99 (pI_ok ⟨(by unfold wAbout; first | rfl | (simp; done) | (rw [if_neg (by decide), if_neg (by decide), if_neg (by decide), if_neg (by decide), if_neg (by decide), if_neg (by decide), if_pos rfl])), hX0, hy0⟩)
    · refine wp_tableIn (off := 94) 100 dX10_about_6 (by decide) (by decide) (by decide) (by decide) ?_
      refine wp_aload_n dX10_about_100 rfl 0 rfl ?_
      refine wp_getI fX10_176 rfl (rfl) (by decide) dX10_about_101 ?_
      refine wp_top (x' := nI (qE Q).1) (he) ?_
      exact wp_iret hC rfl rfl dX10_about_104 (pI_ok ⟨(by unfold wAbout; first | rfl | (simp; done) | (rw [if_neg (by decide), if_neg (by decide), if_neg (by decide), if_neg (by decide), if_neg (by decide), if_neg (by decide), if_neg (by decide), if_pos rfl])), hX0, hy0⟩)
    · refine wp_tableIn (off := 99) 105 dX10_about_6 (by decide) (by decide) (by decide) (by decide) ?_
      refine wp_aload_n dX10_about_105 rfl 0 rfl ?_
      refine wp_getI fX10_87 rfl (rfl) (by decide) dX10_about_106 ?_
      refine wp_top (x' := nI Q.1.1) (hn) ?_
      exact wp_iret hC rfl rfl dX10_about_109 (pI_ok ⟨(by unfold wAbout; first | rfl | (simp; done) | (rw [if_neg (by decide), if_neg (by decide), if_neg (by decide), if_neg (by decide), if_neg (by decide), if_neg (by decide), if_neg (by decide), if_neg (by decide), if_pos rfl])), hX0, hy0⟩)

set_option maxRecDepth 100000 in
set_option maxHeartbeats 600000 in
theorem c_X10_husk (l : Launch) (k : Nat) (F A : mmF) (R : mmR) (G : mmG) (x y : Int32) (Q : QV) (hX : RepM F A R G Q) (hwf : wfQ Q) : Meets l hX10_husk (k + 2) 144 144 [.ref 123, .int x, .int y] F A R G (pI (fun v F1 A1 R1 G1 => v = wHusk Q x y ∧ RepM F1 A1 R1 G1 Q ∧ frY F A R G F1 A1 R1 G1)) := by
  refine mm_start rfl (Nat.le_of_ble_eq_true rfl) (fun X hC => ?_)
  show WP hX10_husk X 144 0 [(0, .ref 123), (1, .int x), (2, .int y)] [] F A R G
  obtain ⟨hw60, hw, hwS, hwA, hwE, hwK⟩ := id hwf
  have hw1 := hw.1
  refine wp_aload_n dX10_husk_0 rfl 0 rfl ?_
  refine wp_iconst (v := 0) dX10_husk_1 (by decide) ?_
  refine wp_putI fX10_71 fn_10_0 rfl (rfl) (by decide) dX10_husk_2 ?_
  obtain ⟨F0, hF0⟩ : ∃ z, z = u2 F 123 0 0 := ⟨_, rfl⟩
  rw [← hF0]
  have hs0 : scN F A F0 A := by rw [hF0]; exact scN.F (by decide)
  obtain ⟨hX0, hy0⟩ := hX.scr hs0
  obtain ⟨hR, ⟨hn, ht⟩, hM, hP, ⟨ha, hac⟩, ⟨he, hes⟩, hk, hg⟩ := id hX0
  refine wp_aload_n dX10_husk_5 rfl 0 rfl ?_
  refine wp_iload_n dX10_husk_6 rfl 1 rfl ?_
  refine wp_callP (e := if isIn x (nI (qB Q).1.1) = 0 then 1 else 0) (mm_siteV (av := [.int x]) hC lX10_179 (rfl) (by decide) ⟨_, rfl, rfl⟩ rfl rfl (Nat.le_of_ble_eq_true rfl) dX10_husk_7) (c_X10_noHusk l k _ _ _ _ _ (qB Q) hM hw) (by omega) (by decide) ?_
  refine wp_if_eq 15 dX10_husk_10 (by decide) (fun c1 => ?_) (fun c1 => ?_)
  · rw [ite01] at c1
    obtain ⟨h, hh, rfl⟩ := isIn_nat (by omega) c1
    refine wp_iload_n dX10_husk_15 rfl 2 rfl ?_
    rcases sw_cases y 8 (by decide) with hsw | ⟨j, hj, rfl⟩
    · refine wp_tableOut 143 dX10_husk_16 hsw (by decide) ?_
      refine wp_bipush (v := (-2)) dX10_husk_143 (by decide) ?_
      exact wp_iret hC rfl rfl dX10_husk_145 (pI_ok ⟨by unfold wHusk; rw [if_neg c1, nI_clamp (by omega)]; unfold wHuskN; simp only [sw_ne hsw (by decide) 0 (by decide), sw_ne hsw (by decide) 1 (by decide), sw_ne hsw (by decide) 2 (by decide), sw_ne hsw (by decide) 3 (by decide), sw_ne hsw (by decide) 4 (by decide), sw_ne hsw (by decide) 5 (by decide), sw_ne hsw (by decide) 6 (by decide), sw_ne hsw (by decide) 7 (by decide), sw_ne hsw (by decide) 8 (by decide), if_false], hX0, hy0⟩)
    · rcases (show j = 0 ∨ j = 1 ∨ j = 2 ∨ j = 3 ∨ j = 4 ∨ j = 5 ∨ j = 6 ∨ j = 7 ∨ j = 8 by omega) with rfl | rfl | rfl | rfl | rfl | rfl | rfl | rfl | rfl
      · refine wp_tableIn (off := 52) 68 dX10_husk_16 (by decide) (by decide) (by decide) (by decide) ?_
        refine wp_aload_n dX10_husk_68 rfl 0 rfl ?_
        refine wp_getO (q := 125) fX10_13 hR rfl (rfl) (by decide) (by decide) rfl dX10_husk_69 ?_
        refine wp_iconst (v := 3) dX10_husk_72 (by decide) ?_
        refine wp_iload_n dX10_husk_73 rfl 1 rfl ?_
        refine wp_imul dX10_husk_74 ?_
        refine wp_iload_n dX10_husk_75 rfl 2 rfl ?_
        refine wp_iadd dX10_husk_76 ?_
        refine wp_iald ((3 * h) + 0) (ix_add (ix_mul rfl rfl) rfl) (rfl) (by decide) ((show (3 * h) + 0 < 15 from by omega)) dX10_husk_77 ?_
        refine wp_top (x' := (qB Q).2 1 h) (hM.2.2.2.1 h (by omega) 0 (by decide)) ?_
        exact wp_iret hC rfl rfl dX10_husk_78 (pI_ok ⟨by unfold wHusk; rw [if_neg c1, nI_clamp (by omega)]; unfold wHuskN; rw [if_pos rfl]; try rfl, hX0, hy0⟩)
      · refine wp_tableIn (off := 52) 68 dX10_husk_16 (by decide) (by decide) (by decide) (by decide) ?_
        refine wp_aload_n dX10_husk_68 rfl 0 rfl ?_
        refine wp_getO (q := 125) fX10_13 hR rfl (rfl) (by decide) (by decide) rfl dX10_husk_69 ?_
        refine wp_iconst (v := 3) dX10_husk_72 (by decide) ?_
        refine wp_iload_n dX10_husk_73 rfl 1 rfl ?_
        refine wp_imul dX10_husk_74 ?_
        refine wp_iload_n dX10_husk_75 rfl 2 rfl ?_
        refine wp_iadd dX10_husk_76 ?_
        refine wp_iald ((3 * h) + 1) (ix_add (ix_mul rfl rfl) rfl) (rfl) (by decide) ((show (3 * h) + 1 < 15 from by omega)) dX10_husk_77 ?_
        refine wp_top (x' := (qB Q).2 2 h) (hM.2.2.2.1 h (by omega) 1 (by decide)) ?_
        exact wp_iret hC rfl rfl dX10_husk_78 (pI_ok ⟨by unfold wHusk; rw [if_neg c1, nI_clamp (by omega)]; unfold wHuskN; rw [if_neg (by decide), if_pos rfl]; try rfl, hX0, hy0⟩)
      · refine wp_tableIn (off := 52) 68 dX10_husk_16 (by decide) (by decide) (by decide) (by decide) ?_
        refine wp_aload_n dX10_husk_68 rfl 0 rfl ?_
        refine wp_getO (q := 125) fX10_13 hR rfl (rfl) (by decide) (by decide) rfl dX10_husk_69 ?_
        refine wp_iconst (v := 3) dX10_husk_72 (by decide) ?_
        refine wp_iload_n dX10_husk_73 rfl 1 rfl ?_
        refine wp_imul dX10_husk_74 ?_
        refine wp_iload_n dX10_husk_75 rfl 2 rfl ?_
        refine wp_iadd dX10_husk_76 ?_
        refine wp_iald ((3 * h) + 2) (ix_add (ix_mul rfl rfl) rfl) (rfl) (by decide) ((show (3 * h) + 2 < 15 from by omega)) dX10_husk_77 ?_
        refine wp_top (x' := (qB Q).2 3 h) (hM.2.2.2.1 h (by omega) 2 (by decide)) ?_
        exact wp_iret hC rfl rfl dX10_husk_78 (pI_ok ⟨by unfold wHusk; rw [if_neg c1, nI_clamp (by omega)]; unfold wHuskN; rw [if_neg (by decide), if_neg (by decide), if_pos rfl]; try rfl, hX0, hy0⟩)
      · refine wp_tableIn (off := 63) 79 dX10_husk_16 (by decide) (by decide) (by decide) (by decide) ?_
        refine wp_aload_n dX10_husk_79 rfl 0 rfl ?_
        refine wp_aload_n dX10_husk_80 rfl 0 rfl ?_
        refine wp_getO (q := 131) fX10_31 hR rfl (rfl) (by decide) (by decide) rfl dX10_husk_81 ?_
        refine wp_iload_n dX10_husk_84 rfl 1 rfl ?_
        refine wp_callP (e := firmB (qB Q) (qS Q) h) (mm_siteV (av := [.ref 131, .int (nI h)]) hC lX10_170 (rfl) (by decide) ⟨_, rfl, rfl⟩ rfl rfl (Nat.le_of_ble_eq_true rfl) dX10_husk_85) (c_X10_firm l k _ _ _ _ 131 h (qS Q) (qB Q) hR (Or.inl rfl) hM hw hP hh (hwS.2.2.2 h hh)) (by omega) (by decide) ?_
        exact wp_iret hC rfl rfl dX10_husk_88 (pI_ok ⟨by unfold wHusk; rw [if_neg c1, nI_clamp (by omega)]; unfold wHuskN; rw [if_neg (by decide), if_neg (by decide), if_neg (by decide), if_pos rfl]; try rfl, hX0, hy0⟩)
      · refine wp_tableIn (off := 73) 89 dX10_husk_16 (by decide) (by decide) (by decide) (by decide) ?_
        refine wp_aload_n dX10_husk_89 rfl 0 rfl ?_
        refine wp_getO (q := 131) fX10_31 hR rfl (rfl) (by decide) (by decide) rfl dX10_husk_90 ?_
        refine wp_iconst (v := 0) dX10_husk_93 (by decide) ?_
        refine wp_iload_n dX10_husk_94 rfl 1 rfl ?_
        refine wp_iadd dX10_husk_95 ?_
        refine wp_iald (0 + h) (ix_add rfl rfl) (rfl) (by decide) ((show 0 + h < 15 from by omega)) dX10_husk_96 ?_
        refine wp_top (x' := (qS Q).1 h) (isP_l hP (by omega)) ?_
        exact wp_iret hC rfl rfl dX10_husk_97 (pI_ok ⟨by unfold wHusk; rw [if_neg c1, nI_clamp (by omega)]; unfold wHuskN; rw [if_neg (by decide), if_neg (by decide), if_neg (by decide), if_neg (by decide), if_pos rfl]; try rfl, hX0, hy0⟩)
      · refine wp_tableIn (off := 82) 98 dX10_husk_16 (by decide) (by decide) (by decide) (by decide) ?_
        refine wp_aload_n dX10_husk_98 rfl 0 rfl ?_
        refine wp_getO (q := 131) fX10_31 hR rfl (rfl) (by decide) (by decide) rfl dX10_husk_99 ?_
        refine wp_iconst (v := 5) dX10_husk_102 (by decide) ?_
        refine wp_iload_n dX10_husk_103 rfl 1 rfl ?_
        refine wp_iadd dX10_husk_104 ?_
        refine wp_iald (5 + h) (ix_add rfl rfl) (rfl) (by decide) ((show 5 + h < 15 from by omega)) dX10_husk_105 ?_
        refine wp_top (x' := (qS Q).2.1 h) (isP_h hP (by omega)) ?_
        exact wp_iret hC rfl rfl dX10_husk_106 (pI_ok ⟨by unfold wHusk; rw [if_neg c1, nI_clamp (by omega)]; unfold wHuskN; rw [if_neg (by decide), if_neg (by decide), if_neg (by decide), if_neg (by decide), if_neg (by decide), if_pos rfl]; try rfl, hX0, hy0⟩)
      · refine wp_tableIn (off := 91) 107 dX10_husk_16 (by decide) (by decide) (by decide) (by decide) ?_
        refine wp_aload_n dX10_husk_107 rfl 0 rfl ?_
        refine wp_getO (q := 131) fX10_31 hR rfl (rfl) (by decide) (by decide) rfl dX10_husk_108 ?_
        refine wp_bipush (v := 10) dX10_husk_111 (by decide) ?_
        refine wp_iald 10 (rfl) (rfl) (by decide) ((show 10 < 15 from by omega)) dX10_husk_113 ?_
        refine wp_top (x' := (qS Q).2.2 3) (hP 10 (by decide)) ?_
        refine wp_iload_n dX10_husk_114 rfl 1 rfl ?_
        refine wp_ishr dX10_husk_115 ?_
        refine wp_iconst (v := 1) dX10_husk_116 (by decide) ?_
        refine wp_iand dX10_husk_117 ?_
        exact wp_iret hC rfl rfl dX10_husk_118 (pI_ok ⟨by unfold wHusk; rw [if_neg c1, nI_clamp (by omega)]; unfold wHuskN; rw [if_neg (by decide), if_neg (by decide), if_neg (by decide), if_neg (by decide), if_neg (by decide), if_neg (by decide), if_pos rfl]; try rfl, hX0, hy0⟩)
      · refine wp_tableIn (off := 103) 119 dX10_husk_16 (by decide) (by decide) (by decide) (by decide) ?_
        refine wp_aload_n dX10_husk_119 rfl 0 rfl ?_
        refine wp_getO (q := 131) fX10_31 hR rfl (rfl) (by decide) (by decide) rfl dX10_husk_120 ?_
        refine wp_bipush (v := 11) dX10_husk_123 (by decide) ?_
        refine wp_iald 11 (rfl) (rfl) (by decide) ((show 11 < 15 from by omega)) dX10_husk_125 ?_
        refine wp_top (x' := (qS Q).2.2 4) (hP 11 (by decide)) ?_
        refine wp_iload_n dX10_husk_126 rfl 1 rfl ?_
        refine wp_ishr dX10_husk_127 ?_
        refine wp_iconst (v := 1) dX10_husk_128 (by decide) ?_
        refine wp_iand dX10_husk_129 ?_
        exact wp_iret hC rfl rfl dX10_husk_130 (pI_ok ⟨by unfold wHusk; rw [if_neg c1, nI_clamp (by omega)]; unfold wHuskN; rw [if_neg (by decide), if_neg (by decide), if_neg (by decide), if_neg (by decide), if_neg (by decide), if_neg (by decide), if_neg (by decide), if_pos rfl]; try rfl, hX0, hy0⟩)
      · refine wp_tableIn (off := 115) 131 dX10_husk_16 (by decide) (by decide) (by decide) (by decide) ?_
        refine wp_aload_n dX10_husk_131 rfl 0 rfl ?_
        refine wp_getO (q := 131) fX10_31 hR rfl (rfl) (by decide) (by decide) rfl dX10_husk_132 ?_
        refine wp_bipush (v := 12) dX10_husk_135 (by decide) ?_
        refine wp_iald 12 (rfl) (rfl) (by decide) ((show 12 < 15 from by omega)) dX10_husk_137 ?_
        refine wp_top (x' := (qS Q).2.2 2) (hP 12 (by decide)) ?_
        refine wp_iload_n dX10_husk_138 rfl 1 rfl ?_
        refine wp_ishr dX10_husk_139 ?_
        refine wp_iconst (v := 1) dX10_husk_140 (by decide) ?_
        refine wp_iand dX10_husk_141 ?_
        exact wp_iret hC rfl rfl dX10_husk_142 (pI_ok ⟨by unfold wHusk; rw [if_neg c1, nI_clamp (by omega)]; unfold wHuskN; rw [if_neg (by decide), if_neg (by decide), if_neg (by decide), if_neg (by decide), if_neg (by decide), if_neg (by decide), if_neg (by decide), if_neg (by decide), if_pos rfl]; try rfl, hX0, hy0⟩)
  · rw [ite01, Classical.not_not] at c1
    refine wp_iconst (v := (-1)) dX10_husk_13 (by decide) ?_
    exact wp_iret hC rfl rfl dX10_husk_14 (pI_ok ⟨by unfold wHusk; rw [if_pos c1], hX0, hy0⟩)

theorem wThr_in {Q : QV} {t j : Nat} (hj : j < 3) : wThrN Q t (nI j) = (qB Q).2 (4 + j) t := by
  unfold wThrN
  rcases (show j = 0 ∨ j = 1 ∨ j = 2 by omega) with rfl | rfl | rfl
  · rw [if_pos rfl]
  · rw [if_neg (by decide), if_pos rfl]
  · rw [if_neg (by decide), if_neg (by decide), if_pos rfl]
theorem isIn3 {x : Int32} (h : isIn x 3 = 0) : ¬ x = nI 0 ∧ ¬ x = nI 1 ∧ ¬ x = nI 2 := by
  refine ⟨fun e => ?_, fun e => ?_, fun e => ?_⟩ <;> (rw [e] at h; exact absurd h (by decide))
set_option maxRecDepth 100000 in
set_option maxHeartbeats 600000 in
theorem c_X10_thrower (l : Launch) (k : Nat) (F A : mmF) (R : mmR) (G : mmG) (x y : Int32) (Q : QV) (hX : RepM F A R G Q) (hwf : wfQ Q) : Meets l hX10_thrower (k + 2) 144 144 [.ref 123, .int x, .int y] F A R G (pI (fun v F1 A1 R1 G1 => v = wThr Q x y ∧ RepM F1 A1 R1 G1 Q ∧ frY F A R G F1 A1 R1 G1)) := by
  refine mm_start rfl (Nat.le_of_ble_eq_true rfl) (fun X hC => ?_)
  show WP hX10_thrower X 144 0 [(0, .ref 123), (1, .int x), (2, .int y)] [] F A R G
  obtain ⟨hw60, hw, hwS, hwA, hwE, hwK⟩ := id hwf
  have hw1 := hw.1
  refine wp_aload_n dX10_thrower_0 rfl 0 rfl ?_
  refine wp_iconst (v := 0) dX10_thrower_1 (by decide) ?_
  refine wp_putI fX10_71 fn_10_0 rfl (rfl) (by decide) dX10_thrower_2 ?_
  obtain ⟨F0, hF0⟩ : ∃ z, z = u2 F 123 0 0 := ⟨_, rfl⟩
  rw [← hF0]
  have hs0 : scN F A F0 A := by rw [hF0]; exact scN.F (by decide)
  obtain ⟨hX0, hy0⟩ := hX.scr hs0
  obtain ⟨hR, ⟨hn, ht⟩, hM, hP, ⟨ha, hac⟩, ⟨he, hes⟩, hk, hg⟩ := id hX0
  refine wp_aload_n dX10_thrower_5 rfl 0 rfl ?_
  refine wp_iload_n dX10_thrower_6 rfl 1 rfl ?_
  refine wp_callP (e := if isIn x (nI (qB Q).1.2.1) = 0 then 1 else 0) (mm_siteV (av := [.int x]) hC lX10_183 (rfl) (by decide) ⟨_, rfl, rfl⟩ rfl rfl (Nat.le_of_ble_eq_true rfl) dX10_thrower_7) (c_X10_noThrower l k _ _ _ _ _ (qB Q) hM hw) (by omega) (by decide) ?_
  refine wp_if_eq 15 dX10_thrower_10 (by decide) (fun c1 => ?_) (fun c1 => ?_)
  · rw [ite01] at c1
    obtain ⟨h, hh, rfl⟩ := isIn_nat (by omega) c1
    refine wp_iload_n dX10_thrower_15 rfl 2 rfl ?_
    refine wp_i2l dX10_thrower_16 ?_
    refine wp_lconst (v := 0) dX10_thrower_17 rfl ?_
    refine wp_topL (x' := (0 : Int32).toInt64) (by decide) ?_
    refine wp_ldc2 (v := 2) k_932 dX10_thrower_18 ?_
    refine wp_topL (x' := (2 : Int32).toInt64) (by decide) ?_
    refine wp_callP (e := inP y 0 2) (mm_siteS (av := [.long y.toInt64, .long ((0 : Int32).toInt64), .long ((2 : Int32).toInt64)]) hC lX10_78 rfl rfl (Nat.le_of_ble_eq_true rfl) dX10_thrower_21) (c_X10_in l (k + 1) _ _ _ _ y 0 2) (by omega) (by decide) ?_
    refine wp_if_eq 40 dX10_thrower_24 (by decide) (fun c2 => ?_) (fun c2 => ?_)
    · rw [in3] at c2
      refine wp_iload_n dX10_thrower_40 rfl 2 rfl ?_
      refine wp_iconst (v := 3) dX10_thrower_41 (by decide) ?_
      refine wp_icmp_ne 53 dX10_thrower_42 (by decide) (fun c3 => ?_) (fun c3 => ?_)
      · refine wp_bipush (v := (-2)) dX10_thrower_53 (by decide) ?_
        exact wp_iret hC rfl rfl dX10_thrower_55 (pI_ok ⟨by unfold wThr; rw [if_neg c1, nI_clamp (by omega)]; unfold wThrN; rw [if_neg (isIn3 c2).1, if_neg (isIn3 c2).2.1, if_neg (isIn3 c2).2.2, if_neg (show ¬ y = nI 3 from c3)], hX0, hy0⟩)
      · refine wp_aload_n dX10_thrower_45 rfl 0 rfl ?_
        refine wp_iload_n dX10_thrower_46 rfl 1 rfl ?_
        refine wp_callP (e := forceP ((qB Q).2 5 h) ((qB Q).2 6 h)) (mm_siteV (av := [.int (nI h)]) hC lX10_167 (rfl) (by decide) ⟨_, rfl, rfl⟩ rfl rfl (Nat.le_of_ble_eq_true rfl) dX10_thrower_47) (c_X10_force l (k + 1) _ _ _ _ h (qB Q) hR hM hw hh) (by omega) (by decide) ?_
        refine wp_goto 55 dX10_thrower_50 (by decide) ?_
        exact wp_iret hC rfl rfl dX10_thrower_55 (pI_ok ⟨by unfold wThr; rw [if_neg c1, nI_clamp (by omega)]; unfold wThrN; rw [if_neg (isIn3 c2).1, if_neg (isIn3 c2).2.1, if_neg (isIn3 c2).2.2, if_pos (show y = nI 3 from c3)], hX0, hy0⟩)
    · rw [in3] at c2
      obtain ⟨j, hj, rfl⟩ := isIn_nat (n := 3) (by decide) c2
      refine wp_aload_n dX10_thrower_27 rfl 0 rfl ?_
      refine wp_getO (q := 126) fX10_16 hR rfl (rfl) (by decide) (by decide) rfl dX10_thrower_28 ?_
      refine wp_iconst (v := 3) dX10_thrower_31 (by decide) ?_
      refine wp_iload_n dX10_thrower_32 rfl 1 rfl ?_
      refine wp_imul dX10_thrower_33 ?_
      refine wp_iload_n dX10_thrower_34 rfl 2 rfl ?_
      refine wp_iadd dX10_thrower_35 ?_
      refine wp_iald ((3 * h) + j) (ix_add (ix_mul rfl rfl) rfl) (rfl) (by decide) ((show (3 * h) + j < 12 from by omega)) dX10_thrower_36 ?_
      refine wp_top (x' := (qB Q).2 (4 + j) h) (hM.2.2.2.2.1 h (by omega) j hj) ?_
      refine wp_goto 55 dX10_thrower_37 (by decide) ?_
      exact wp_iret hC rfl rfl dX10_thrower_55 (pI_ok ⟨by unfold wThr; rw [if_neg c1, nI_clamp (by omega)]; exact (wThr_in hj).symm, hX0, hy0⟩)
  · rw [ite01, Classical.not_not] at c1
    refine wp_iconst (v := (-1)) dX10_thrower_13 (by decide) ?_
    exact wp_iret hC rfl rfl dX10_thrower_14 (pI_ok ⟨by unfold wThr; rw [if_pos c1], hX0, hy0⟩)

theorem noT_eq {Q : QV} {t pl lk : Int32} : noTh Q t pl lk = if noTm (qB Q) t pl lk = 0 then -9 else noTm (qB Q) t pl lk := by
  unfold noTh noTm
  by_cases h1 : isIn t (nI (qB Q).1.2.1) = 0
  · simp only [if_pos h1]; rfl
  · simp only [if_neg h1]
    by_cases h2 : isIn pl 8 = 0
    · simp only [if_pos h2]; rfl
    · simp only [if_neg h2]
      by_cases h3 : lk < 0
      · have : isIn lk 3 = 0 := by unfold isIn; rw [if_pos h3]
        simp only [if_pos h3, if_pos this]; rfl
      · simp only [if_neg h3]
        obtain ⟨j, hj, rfl⟩ := nI_of h3
        by_cases h4 : (2 : Int32) < nI j
        · have h5 : 2 < j := (nI_ltI (a := 2) (by decide) hj).mp h4
          have : isIn (nI j) 3 = 0 := by unfold isIn; rw [if_neg h3, if_pos (show (3 : Int32) ≤ nI j from nI_le (a := 3) (by omega) hj)]
          simp only [if_pos h4, if_pos this]; rfl
        · have h5 : ¬ 2 < j := fun h => h4 (nI_lt (a := 2) h hj)
          have : ¬ isIn (nI j) 3 = 0 := isIn_ok (m := 3) (by omega) (by decide)
          simp only [if_neg h4, if_neg this]; rfl
theorem noTm_nat {Q : QV} {t pl lk : Int32} (hw : wfB (qB Q)) (h : noTm (qB Q) t pl lk = 0) : noTh Q t pl lk = -9 ∧ (∃ j, j < (qB Q).1.2.1 ∧ t = nI j) ∧ (∃ p, p < 8 ∧ pl = nI p) ∧ ∃ q, q < 3 ∧ lk = nI q := by
  have e : noTh Q t pl lk = -9 := by rw [noT_eq, if_pos h]
  exact ⟨e, noTh_nat hw e⟩
theorem noTm_no {Q : QV} {t pl lk : Int32} (h : ¬ noTm (qB Q) t pl lk = 0) : noTh Q t pl lk = noTm (qB Q) t pl lk ∧ ¬ noTh Q t pl lk = -9 := by
  have e : noTh Q t pl lk = noTm (qB Q) t pl lk := by rw [noT_eq, if_neg h]
  refine ⟨e, ?_⟩
  rw [e]; unfold noTm at h ⊢
  split
  · decide
  · split
    · decide
    · split
      · decide
      · rename_i h1 h2 h3
        rw [if_neg h1, if_neg h2, if_neg h3] at h
        exact absurd rfl h
set_option maxRecDepth 100000 in
set_option maxHeartbeats 600000 in
theorem c_X10_lands (l : Launch) (k : Nat) (F A : mmF) (R : mmR) (G : mmG) (t pl lk : Int32) (Q : QV) (hX : RepM F A R G Q) (hwf : wfQ Q) : Meets l hX10_lands (k + 3) 144 144 [.ref 123, .int t, .int pl, .int lk] F A R G (pI (fun v F1 A1 R1 G1 => v = wLands Q t pl lk ∧ RepM F1 A1 R1 G1 Q ∧ frY F A R G F1 A1 R1 G1)) := by
  refine mm_start rfl (Nat.le_of_ble_eq_true rfl) (fun X hC => ?_)
  show WP hX10_lands X 144 0 [(0, .ref 123), (1, .int t), (2, .int pl), (3, .int lk)] [] F A R G
  obtain ⟨hw60, hw, hwS, hwA, hwE, hwK⟩ := id hwf
  have hw1 := hw.1
  refine wp_aload_n dX10_lands_0 rfl 0 rfl ?_
  refine wp_iconst (v := 0) dX10_lands_1 (by decide) ?_
  refine wp_putI fX10_71 fn_10_0 rfl (rfl) (by decide) dX10_lands_2 ?_
  obtain ⟨F0, hF0⟩ : ∃ z, z = u2 F 123 0 0 := ⟨_, rfl⟩
  rw [← hF0]
  have hs0 : scN F A F0 A := by rw [hF0]; exact scN.F (by decide)
  obtain ⟨hX0, hy0⟩ := hX.scr hs0
  obtain ⟨hR, ⟨hn, ht⟩, hM, hP, ⟨ha, hac⟩, ⟨he, hes⟩, hk, hg⟩ := id hX0
  refine wp_aload_n dX10_lands_5 rfl 0 rfl ?_
  refine wp_iload_n dX10_lands_6 rfl 1 rfl ?_
  refine wp_iload_n dX10_lands_7 rfl 2 rfl ?_
  refine wp_iload_n dX10_lands_8 rfl 3 rfl ?_
  refine wp_callP (e := noTm (qB Q) t pl lk) (mm_siteV (av := [.int t, .int pl, .int lk]) hC lX10_188 (rfl) (by decide) ⟨_, rfl, rfl⟩ rfl rfl (Nat.le_of_ble_eq_true rfl) dX10_lands_9) (c_X10_noThrow l k _ _ _ _ _ _ _ (qB Q) hM hw) (by omega) (by decide) ?_
  refine wp_istore [1, 2, 3, 4, 0] (by decide) rfl rfl rfl dX10_lands_12 ?_
  refine wp_iload dX10_lands_14 4 rfl ?_
  refine wp_if_eq 24 dX10_lands_16 (by decide) (fun c1 => ?_) (fun c1 => ?_)
  · obtain ⟨hn9, ⟨t, htn, rfl⟩, ⟨pp, hpp, hpe⟩, qq, hqq, hqe⟩ := noTm_nat hw c1
    refine wp_aload_n dX10_lands_24 rfl 0 rfl ?_
    refine wp_aload_n dX10_lands_25 rfl 0 rfl ?_
    refine wp_getO (q := 131) fX10_31 hR rfl (rfl) (by decide) (by decide) rfl dX10_lands_26 ?_
    refine wp_iload_n dX10_lands_29 rfl 1 rfl ?_
    refine wp_iload_n dX10_lands_30 rfl 2 rfl ?_
    refine wp_iload_n dX10_lands_31 rfl 3 rfl ?_
    refine wp_callP (e := landP ((qB Q).2 4 t) ((qB Q).2 6 t) pl lk ((qS Q).2.2 5)) (mm_siteV (av := [.ref 131, .int (nI t), .int pl, .int lk]) hC lX10_159 (rfl) (by decide) ⟨_, rfl, rfl⟩ rfl rfl (Nat.le_of_ble_eq_true rfl) dX10_lands_32) (c_X10_landing l (k + 1) _ _ _ _ 131 t pl lk (qS Q) (qB Q) hR (Or.inl rfl) hM hw hP htn) (by omega) (by decide) ?_
    exact wp_iret hC rfl rfl dX10_lands_35 (pI_ok ⟨by unfold wLands; rw [if_pos hn9, nI_clamp (by omega)], hX0, hy0⟩)
  · obtain ⟨hne, hn9⟩ := noTm_no c1
    refine wp_iload dX10_lands_19 4 rfl ?_
    refine wp_goto 35 dX10_lands_21 (by decide) ?_
    exact wp_iret hC rfl rfl dX10_lands_35 (pI_ok ⟨by unfold wLands; rw [if_neg hn9, hne], hX0, hy0⟩)

