set_option maxRecDepth 100000 in
set_option maxHeartbeats 600000 in
theorem c_X9_about (l : Launch) (k : Nat) (F A : mmF) (R : mmR) (G : mmG) (x : Int32) (Q : QV) (hX : RepX F A R G Q) (hwf : wfQ Q) : Meets l hX9_about k 144 144 [.ref 0, .int x] F A R G (pP (wAbout Q x) F A R G) := by
  refine mm_start rfl (Nat.le_of_ble_eq_true rfl) (fun X hC => ?_)
  show WP hX9_about X 144 0 [(0, .ref 0), (1, .int x)] [] F A R G
  obtain ⟨b, d, fi, hR, ⟨hRb, hRd, hb, hd, hbd⟩, ⟨hn, ht⟩, hB, hS, ⟨ha1, ha2, hfi, hac⟩, ⟨he, hes⟩, hk, hg⟩ := id hX
  obtain ⟨hw60, hw, hwS, hwA, hwE, hwK⟩ := id hwf
  have hw1 := hw.1
  have hb2 := bo_f hb
  have hd2 := bo_f hd
  refine wp_iload_n dX9_about_0 rfl 1 rfl ?_
  rcases sw_cases x 8 (by decide) with hsw | ⟨j, hj, rfl⟩
  · refine wp_tableOut 124 dX9_about_1 hsw (by decide) ?_
    refine wp_bipush (v := (-2)) dX9_about_124 (by decide) ?_
    exact wp_iret hC rfl rfl dX9_about_126 (pP_ok (by unfold wAbout; simp only [sw_ne hsw (by decide) 0 (by decide), sw_ne hsw (by decide) 1 (by decide), sw_ne hsw (by decide) 2 (by decide), sw_ne hsw (by decide) 3 (by decide), sw_ne hsw (by decide) 4 (by decide), sw_ne hsw (by decide) 5 (by decide), sw_ne hsw (by decide) 6 (by decide), sw_ne hsw (by decide) 7 (by decide), sw_ne hsw (by decide) 8 (by decide), if_false]))
  · rcases (show j = 0 ∨ j = 1 ∨ j = 2 ∨ j = 3 ∨ j = 4 ∨ j = 5 ∨ j = 6 ∨ j = 7 ∨ j = 8 by omega) with rfl | rfl | rfl | rfl | rfl | rfl | rfl | rfl | rfl
    · refine wp_tableIn (off := 51) 52 dX9_about_1 (by decide) (by decide) (by decide) (by decide) ?_
      refine wp_aload_n dX9_about_52 rfl 0 rfl ?_
      refine wp_getR (q := b) fX9_68 rfl (rfl) (by decide) (hRb) dX9_about_53 ?_
      refine wp_getI fX9_99 rfl (hb) (bo_l0 hb) dX9_about_56 ?_
      refine wp_top (x' := nI (qB Q).1.1) (hB.1.1) ?_
      exact wp_iret hC rfl rfl dX9_about_59 (pP_ok (by unfold wAbout; first | rfl | (simp; done) | (rw [if_pos rfl])))
    · refine wp_tableIn (off := 59) 60 dX9_about_1 (by decide) (by decide) (by decide) (by decide) ?_
      refine wp_aload_n dX9_about_60 rfl 0 rfl ?_
      refine wp_getR (q := b) fX9_68 rfl (rfl) (by decide) (hRb) dX9_about_61 ?_
      refine wp_getI fX9_102 rfl (hb) (bo_l0 hb) dX9_about_64 ?_
      refine wp_top (x' := nI (qB Q).1.2.1) (hB.1.2.1) ?_
      exact wp_iret hC rfl rfl dX9_about_67 (pP_ok (by unfold wAbout; first | rfl | (simp; done) | (rw [if_neg (by decide), if_pos rfl])))
    · refine wp_tableIn (off := 67) 68 dX9_about_1 (by decide) (by decide) (by decide) (by decide) ?_
      refine wp_aload_n dX9_about_68 rfl 0 rfl ?_
      refine wp_getR (q := b) fX9_68 rfl (rfl) (by decide) (hRb) dX9_about_69 ?_
      refine wp_getI fX9_105 rfl (hb) (bo_l0 hb) dX9_about_72 ?_
      refine wp_top (x' := nI (qB Q).1.2.2) (hB.1.2.2) ?_
      exact wp_iret hC rfl rfl dX9_about_75 (pP_ok (by unfold wAbout; first | rfl | (simp; done) | (rw [if_neg (by decide), if_neg (by decide), if_pos rfl])))
    · refine wp_tableIn (off := 75) 76 dX9_about_1 (by decide) (by decide) (by decide) (by decide) ?_
      refine wp_aload_n dX9_about_76 rfl 0 rfl ?_
      refine wp_getO (q := 3) fX9_19 hR rfl (rfl) (by decide) (by decide) rfl dX9_about_77 ?_
      refine wp_getI fX9_108 rfl (rfl) (by decide) dX9_about_80 ?_
      refine wp_top (x' := (qS Q).2.2 5) (hS.2.2.2.2.2.1) ?_
      exact wp_iret hC rfl rfl dX9_about_83 (pP_ok (by unfold wAbout; first | rfl | (simp; done) | (rw [if_neg (by decide), if_neg (by decide), if_neg (by decide), if_pos rfl])))
    · refine wp_tableIn (off := 83) 84 dX9_about_1 (by decide) (by decide) (by decide) (by decide) ?_
      refine wp_aload_n dX9_about_84 rfl 0 rfl ?_
      refine wp_getO (q := 3) fX9_19 hR rfl (rfl) (by decide) (by decide) rfl dX9_about_85 ?_
      refine wp_getI fX9_111 rfl (rfl) (by decide) dX9_about_88 ?_
      refine wp_top (x' := (qS Q).2.2 6) (hS.2.2.2.2.2.2) ?_
      exact wp_iret hC rfl rfl dX9_about_91 (pP_ok (by unfold wAbout; first | rfl | (simp; done) | (rw [if_neg (by decide), if_neg (by decide), if_neg (by decide), if_neg (by decide), if_pos rfl])))
    · refine wp_tableIn (off := 91) 92 dX9_about_1 (by decide) (by decide) (by decide) (by decide) ?_
      refine wp_aload_n dX9_about_92 rfl 0 rfl ?_
      refine wp_getO (q := 3) fX9_19 hR rfl (rfl) (by decide) (by decide) rfl dX9_about_93 ?_
      refine wp_getI fX9_114 rfl (rfl) (by decide) dX9_about_96 ?_
      refine wp_top (x' := (qS Q).2.2 2) (hS.2.2.1) ?_
      exact wp_iret hC rfl rfl dX9_about_99 (pP_ok (by unfold wAbout; first | rfl | (simp; done) | (rw [if_neg (by decide), if_neg (by decide), if_neg (by decide), if_neg (by decide), if_neg (by decide), if_pos rfl])))
    · refine wp_tableIn (off := 99) 100 dX9_about_1 (by decide) (by decide) (by decide) (by decide) ?_
      refine wp_aload_n dX9_about_100 rfl 0 rfl ?_
      refine wp_getO (q := 6) fX9_26 hR rfl (rfl) (by decide) (by decide) rfl dX9_about_101 ?_
      refine wp_getI fX9_117 rfl (rfl) (by decide) dX9_about_104 ?_
      refine wp_top (x' := nI (qA Q).length) (ha2) ?_
      exact wp_iret hC rfl rfl dX9_about_107 (pP_ok (by unfold wAbout; first | rfl | (simp; done) | (rw [if_neg (by decide), if_neg (by decide), if_neg (by decide), if_neg (by decide), if_neg (by decide), if_neg (by decide), if_pos rfl])))
    · refine wp_tableIn (off := 107) 108 dX9_about_1 (by decide) (by decide) (by decide) (by decide) ?_
      refine wp_aload_n dX9_about_108 rfl 0 rfl ?_
      refine wp_getO (q := 50) fX9_33 hR rfl (rfl) (by decide) (by decide) rfl dX9_about_109 ?_
      refine wp_getI fX9_120 rfl (rfl) (by decide) dX9_about_112 ?_
      refine wp_top (x' := nI (qE Q).1) (he) ?_
      exact wp_iret hC rfl rfl dX9_about_115 (pP_ok (by unfold wAbout; first | rfl | (simp; done) | (rw [if_neg (by decide), if_neg (by decide), if_neg (by decide), if_neg (by decide), if_neg (by decide), if_neg (by decide), if_neg (by decide), if_pos rfl])))
    · refine wp_tableIn (off := 115) 116 dX9_about_1 (by decide) (by decide) (by decide) (by decide) ?_
      refine wp_aload_n dX9_about_116 rfl 0 rfl ?_
      refine wp_getO (q := 1) fX9_10 hR rfl (rfl) (by decide) (by decide) rfl dX9_about_117 ?_
      refine wp_getI fX9_83 rfl (rfl) (by decide) dX9_about_120 ?_
      refine wp_top (x' := nI Q.1.1) (hn) ?_
      exact wp_iret hC rfl rfl dX9_about_123 (pP_ok (by unfold wAbout; first | rfl | (simp; done) | (rw [if_neg (by decide), if_neg (by decide), if_neg (by decide), if_neg (by decide), if_neg (by decide), if_neg (by decide), if_neg (by decide), if_neg (by decide), if_pos rfl])))

set_option maxRecDepth 100000 in
set_option maxHeartbeats 600000 in
theorem c_X9_husk (l : Launch) (k : Nat) (F A : mmF) (R : mmR) (G : mmG) (x y : Int32) (Q : QV) (hX : RepX F A R G Q) (hwf : wfQ Q) : Meets l hX9_husk (k + 2) 144 144 [.ref 0, .int x, .int y] F A R G (pP (wHusk Q x y) F A R G) := by
  refine mm_start rfl (Nat.le_of_ble_eq_true rfl) (fun X hC => ?_)
  show WP hX9_husk X 144 0 [(0, .ref 0), (1, .int x), (2, .int y)] [] F A R G
  obtain ⟨b, d, fi, hR, ⟨hRb, hRd, hb, hd, hbd⟩, ⟨hn, ht⟩, hB, hS, ⟨ha1, ha2, hfi, hac⟩, ⟨he, hes⟩, hk, hg⟩ := id hX
  obtain ⟨hw60, hw, hwS, hwA, hwE, hwK⟩ := id hwf
  have hw1 := hw.1
  have hb2 := bo_f hb
  have hd2 := bo_f hd
  refine wp_aload_n dX9_husk_0 rfl 0 rfl ?_
  refine wp_getR (q := b) fX9_68 rfl (rfl) (by decide) (hRb) dX9_husk_1 ?_
  refine wp_iload_n dX9_husk_4 rfl 1 rfl ?_
  refine wp_callP (e := isIn x (nI (qB Q).1.1)) (mm_siteV (av := [.int x]) hC lX9_121 (hb) (bo_l0 hb) ⟨_, rfl, rfl⟩ rfl rfl (Nat.le_of_ble_eq_true rfl) dX9_husk_5) (cB_isHusk l (k + 1) _ _ _ _ _ _ (qB Q) hb hB) (by omega) (by decide) ?_
  refine wp_if_ne 13 dX9_husk_8 (by decide) (fun c1 => ?_) (fun c1 => ?_)
  · obtain ⟨h, hh, rfl⟩ := isIn_nat (by omega) c1
    refine wp_iload_n dX9_husk_13 rfl 2 rfl ?_
    rcases sw_cases y 8 (by decide) with hsw | ⟨j, hj, rfl⟩
    · refine wp_tableOut 163 dX9_husk_14 hsw (by decide) ?_
      refine wp_bipush (v := (-2)) dX9_husk_163 (by decide) ?_
      exact wp_iret hC rfl rfl dX9_husk_165 (pP_ok (by unfold wHusk; rw [if_neg c1, nI_clamp (by omega)]; unfold wHuskN; simp only [sw_ne hsw (by decide) 0 (by decide), sw_ne hsw (by decide) 1 (by decide), sw_ne hsw (by decide) 2 (by decide), sw_ne hsw (by decide) 3 (by decide), sw_ne hsw (by decide) 4 (by decide), sw_ne hsw (by decide) 5 (by decide), sw_ne hsw (by decide) 6 (by decide), sw_ne hsw (by decide) 7 (by decide), sw_ne hsw (by decide) 8 (by decide), if_false]))
    · rcases (show j = 0 ∨ j = 1 ∨ j = 2 ∨ j = 3 ∨ j = 4 ∨ j = 5 ∨ j = 6 ∨ j = 7 ∨ j = 8 by omega) with rfl | rfl | rfl | rfl | rfl | rfl | rfl | rfl | rfl
      · refine wp_tableIn (off := 50) 64 dX9_husk_14 (by decide) (by decide) (by decide) (by decide) ?_
        refine wp_aload_n dX9_husk_64 rfl 0 rfl ?_
        refine wp_getR (q := b) fX9_68 rfl (rfl) (by decide) (hRb) dX9_husk_65 ?_
        refine wp_getO (q := b + 1) fX9_124 hR rfl (hb) (bo_l0 hb) (by decide) rfl dX9_husk_68 ?_
        refine wp_iload_n dX9_husk_71 rfl 1 rfl ?_
        refine wp_iald h (rfl) (bo_k1 hb) (bo_l1 hb) (bo_i1 hb (by omega)) dX9_husk_72 ?_
        refine wp_top (x' := (qB Q).2 1 h) ((hB.2.1 h (by omega)).1) ?_
        exact wp_iret hC rfl rfl dX9_husk_73 (pP_ok (by unfold wHusk; rw [if_neg c1, nI_clamp (by omega)]; unfold wHuskN; rw [if_pos rfl]))
      · refine wp_tableIn (off := 60) 74 dX9_husk_14 (by decide) (by decide) (by decide) (by decide) ?_
        refine wp_aload_n dX9_husk_74 rfl 0 rfl ?_
        refine wp_getR (q := b) fX9_68 rfl (rfl) (by decide) (hRb) dX9_husk_75 ?_
        refine wp_getO (q := b + 2) fX9_128 hR rfl (hb) (bo_l0 hb) (by decide) rfl dX9_husk_78 ?_
        refine wp_iload_n dX9_husk_81 rfl 1 rfl ?_
        refine wp_iald h (rfl) (bo_k2 hb) (bo_l2 hb) (bo_i2 hb (by omega)) dX9_husk_82 ?_
        refine wp_top (x' := (qB Q).2 2 h) ((hB.2.1 h (by omega)).2.1) ?_
        exact wp_iret hC rfl rfl dX9_husk_83 (pP_ok (by unfold wHusk; rw [if_neg c1, nI_clamp (by omega)]; unfold wHuskN; rw [if_neg (by decide), if_pos rfl]))
      · refine wp_tableIn (off := 70) 84 dX9_husk_14 (by decide) (by decide) (by decide) (by decide) ?_
        refine wp_aload_n dX9_husk_84 rfl 0 rfl ?_
        refine wp_getR (q := b) fX9_68 rfl (rfl) (by decide) (hRb) dX9_husk_85 ?_
        refine wp_getO (q := b + 3) fX9_131 hR rfl (hb) (bo_l0 hb) (by decide) rfl dX9_husk_88 ?_
        refine wp_iload_n dX9_husk_91 rfl 1 rfl ?_
        refine wp_iald h (rfl) (bo_k3 hb) (bo_l3 hb) (bo_i3 hb (by omega)) dX9_husk_92 ?_
        refine wp_top (x' := (qB Q).2 3 h) ((hB.2.1 h (by omega)).2.2) ?_
        exact wp_iret hC rfl rfl dX9_husk_93 (pP_ok (by unfold wHusk; rw [if_neg c1, nI_clamp (by omega)]; unfold wHuskN; rw [if_neg (by decide), if_neg (by decide), if_pos rfl]))
      · refine wp_tableIn (off := 80) 94 dX9_husk_14 (by decide) (by decide) (by decide) (by decide) ?_
        refine wp_aload_n dX9_husk_94 rfl 0 rfl ?_
        refine wp_getO (q := 3) fX9_19 hR rfl (rfl) (by decide) (by decide) rfl dX9_husk_95 ?_
        refine wp_aload_n dX9_husk_98 rfl 0 rfl ?_
        refine wp_getR (q := b) fX9_68 rfl (rfl) (by decide) (hRb) dX9_husk_99 ?_
        refine wp_iload_n dX9_husk_102 rfl 1 rfl ?_
        refine wp_callP (e := firmB (qB Q) (qS Q) h) (mm_siteV (av := [.ref b, .int (nI h)]) hC lX9_134 (rfl) (by decide) ⟨_, rfl, rfl⟩ rfl rfl (Nat.le_of_ble_eq_true rfl) dX9_husk_103) (cS_firmness l k _ _ _ _ _ _ _ (qS Q) (qB Q) hR rfl hb hS hB hw hh) (by omega) (by decide) ?_
        exact wp_iret hC rfl rfl dX9_husk_106 (pP_ok (by unfold wHusk; rw [if_neg c1, nI_clamp (by omega)]; unfold wHuskN; rw [if_neg (by decide), if_neg (by decide), if_neg (by decide), if_pos rfl]))
      · refine wp_tableIn (off := 93) 107 dX9_husk_14 (by decide) (by decide) (by decide) (by decide) ?_
        refine wp_aload_n dX9_husk_107 rfl 0 rfl ?_
        refine wp_getO (q := 3) fX9_19 hR rfl (rfl) (by decide) (by decide) rfl dX9_husk_108 ?_
        refine wp_getO (q := 4) fX9_138 hR rfl (rfl) (by decide) (by decide) rfl dX9_husk_111 ?_
        refine wp_iload_n dX9_husk_114 rfl 1 rfl ?_
        refine wp_iald h (rfl) (rfl) (by decide) ((show h < 5 from by omega)) dX9_husk_115 ?_
        refine wp_top (x' := (qS Q).1 h) (hS.1 h (by omega)) ?_
        exact wp_iret hC rfl rfl dX9_husk_116 (pP_ok (by unfold wHusk; rw [if_neg c1, nI_clamp (by omega)]; unfold wHuskN; rw [if_neg (by decide), if_neg (by decide), if_neg (by decide), if_neg (by decide), if_pos rfl]))
      · refine wp_tableIn (off := 103) 117 dX9_husk_14 (by decide) (by decide) (by decide) (by decide) ?_
        refine wp_aload_n dX9_husk_117 rfl 0 rfl ?_
        refine wp_getO (q := 3) fX9_19 hR rfl (rfl) (by decide) (by decide) rfl dX9_husk_118 ?_
        refine wp_getO (q := 5) fX9_141 hR rfl (rfl) (by decide) (by decide) rfl dX9_husk_121 ?_
        refine wp_iload_n dX9_husk_124 rfl 1 rfl ?_
        refine wp_iald h (rfl) (rfl) (by decide) ((show h < 5 from by omega)) dX9_husk_125 ?_
        refine wp_top (x' := (qS Q).2.1 h) (hS.2.1 h (by omega)) ?_
        exact wp_iret hC rfl rfl dX9_husk_126 (pP_ok (by unfold wHusk; rw [if_neg c1, nI_clamp (by omega)]; unfold wHuskN; rw [if_neg (by decide), if_neg (by decide), if_neg (by decide), if_neg (by decide), if_neg (by decide), if_pos rfl]))
      · refine wp_tableIn (off := 113) 127 dX9_husk_14 (by decide) (by decide) (by decide) (by decide) ?_
        refine wp_aload_n dX9_husk_127 rfl 0 rfl ?_
        refine wp_getO (q := 3) fX9_19 hR rfl (rfl) (by decide) (by decide) rfl dX9_husk_128 ?_
        refine wp_getI fX9_144 rfl (rfl) (by decide) dX9_husk_131 ?_
        refine wp_top (x' := (qS Q).2.2 3) (hS.2.2.2.1) ?_
        refine wp_iload_n dX9_husk_134 rfl 1 rfl ?_
        refine wp_callP (e := bt ((qS Q).2.2 3) (nI h)) (mm_siteS (av := [.int ((qS Q).2.2 3), .int (nI h)]) hC lX9_147 rfl rfl (Nat.le_of_ble_eq_true rfl) dX9_husk_135) (c_X9_bit l (k + 1) _ _ _ _ _ _) (by omega) (by decide) ?_
        exact wp_iret hC rfl rfl dX9_husk_138 (pP_ok (by unfold wHusk; rw [if_neg c1, nI_clamp (by omega)]; unfold wHuskN; rw [if_neg (by decide), if_neg (by decide), if_neg (by decide), if_neg (by decide), if_neg (by decide), if_neg (by decide), if_pos rfl]))
      · refine wp_tableIn (off := 125) 139 dX9_husk_14 (by decide) (by decide) (by decide) (by decide) ?_
        refine wp_aload_n dX9_husk_139 rfl 0 rfl ?_
        refine wp_getO (q := 3) fX9_19 hR rfl (rfl) (by decide) (by decide) rfl dX9_husk_140 ?_
        refine wp_getI fX9_151 rfl (rfl) (by decide) dX9_husk_143 ?_
        refine wp_top (x' := (qS Q).2.2 4) (hS.2.2.2.2.1) ?_
        refine wp_iload_n dX9_husk_146 rfl 1 rfl ?_
        refine wp_callP (e := bt ((qS Q).2.2 4) (nI h)) (mm_siteS (av := [.int ((qS Q).2.2 4), .int (nI h)]) hC lX9_147 rfl rfl (Nat.le_of_ble_eq_true rfl) dX9_husk_147) (c_X9_bit l (k + 1) _ _ _ _ _ _) (by omega) (by decide) ?_
        exact wp_iret hC rfl rfl dX9_husk_150 (pP_ok (by unfold wHusk; rw [if_neg c1, nI_clamp (by omega)]; unfold wHuskN; rw [if_neg (by decide), if_neg (by decide), if_neg (by decide), if_neg (by decide), if_neg (by decide), if_neg (by decide), if_neg (by decide), if_pos rfl]))
      · refine wp_tableIn (off := 137) 151 dX9_husk_14 (by decide) (by decide) (by decide) (by decide) ?_
        refine wp_aload_n dX9_husk_151 rfl 0 rfl ?_
        refine wp_getO (q := 3) fX9_19 hR rfl (rfl) (by decide) (by decide) rfl dX9_husk_152 ?_
        refine wp_getI fX9_114 rfl (rfl) (by decide) dX9_husk_155 ?_
        refine wp_top (x' := (qS Q).2.2 2) (hS.2.2.1) ?_
        refine wp_iload_n dX9_husk_158 rfl 1 rfl ?_
        refine wp_callP (e := bt ((qS Q).2.2 2) (nI h)) (mm_siteS (av := [.int ((qS Q).2.2 2), .int (nI h)]) hC lX9_147 rfl rfl (Nat.le_of_ble_eq_true rfl) dX9_husk_159) (c_X9_bit l (k + 1) _ _ _ _ _ _) (by omega) (by decide) ?_
        exact wp_iret hC rfl rfl dX9_husk_162 (pP_ok (by unfold wHusk; rw [if_neg c1, nI_clamp (by omega)]; unfold wHuskN; rw [if_neg (by decide), if_neg (by decide), if_neg (by decide), if_neg (by decide), if_neg (by decide), if_neg (by decide), if_neg (by decide), if_neg (by decide), if_pos rfl]))
  · refine wp_iconst (v := (-1)) dX9_husk_11 (by decide) ?_
    exact wp_iret hC rfl rfl dX9_husk_12 (pP_ok (by unfold wHusk; rw [if_pos c1]))

set_option maxRecDepth 100000 in
set_option maxHeartbeats 600000 in
theorem c_X9_thrower (l : Launch) (k : Nat) (F A : mmF) (R : mmR) (G : mmG) (x y : Int32) (Q : QV) (hX : RepX F A R G Q) (hwf : wfQ Q) : Meets l hX9_thrower (k + 1) 144 144 [.ref 0, .int x, .int y] F A R G (pP (wThr Q x y) F A R G) := by
  refine mm_start rfl (Nat.le_of_ble_eq_true rfl) (fun X hC => ?_)
  show WP hX9_thrower X 144 0 [(0, .ref 0), (1, .int x), (2, .int y)] [] F A R G
  obtain ⟨b, d, fi, hR, ⟨hRb, hRd, hb, hd, hbd⟩, ⟨hn, ht⟩, hB, hS, ⟨ha1, ha2, hfi, hac⟩, ⟨he, hes⟩, hk, hg⟩ := id hX
  obtain ⟨hw60, hw, hwS, hwA, hwE, hwK⟩ := id hwf
  have hw1 := hw.1
  have hb2 := bo_f hb
  have hd2 := bo_f hd
  refine wp_aload_n dX9_thrower_0 rfl 0 rfl ?_
  refine wp_getR (q := b) fX9_68 rfl (rfl) (by decide) (hRb) dX9_thrower_1 ?_
  refine wp_iload_n dX9_thrower_4 rfl 1 rfl ?_
  refine wp_callP (e := isIn x (nI (qB Q).1.2.1)) (mm_siteV (av := [.int x]) hC lX9_154 (hb) (bo_l0 hb) ⟨_, rfl, rfl⟩ rfl rfl (Nat.le_of_ble_eq_true rfl) dX9_thrower_5) (cB_isThrower l k _ _ _ _ _ _ (qB Q) hb hB) (by omega) (by decide) ?_
  refine wp_if_ne 13 dX9_thrower_8 (by decide) (fun c1 => ?_) (fun c1 => ?_)
  · obtain ⟨h, hh, rfl⟩ := isIn_nat (by omega) c1
    refine wp_iload_n dX9_thrower_13 rfl 2 rfl ?_
    rcases sw_cases y 3 (by decide) with hsw | ⟨j, hj, rfl⟩
    · refine wp_tableOut 83 dX9_thrower_14 hsw (by decide) ?_
      refine wp_bipush (v := (-2)) dX9_thrower_83 (by decide) ?_
      exact wp_iret hC rfl rfl dX9_thrower_85 (pP_ok (by unfold wThr; rw [if_neg c1, nI_clamp (by omega)]; unfold wThrN; simp only [sw_ne hsw (by decide) 0 (by decide), sw_ne hsw (by decide) 1 (by decide), sw_ne hsw (by decide) 2 (by decide), sw_ne hsw (by decide) 3 (by decide), if_false]))
    · rcases (show j = 0 ∨ j = 1 ∨ j = 2 ∨ j = 3 by omega) with rfl | rfl | rfl | rfl
      · refine wp_tableIn (off := 30) 44 dX9_thrower_14 (by decide) (by decide) (by decide) (by decide) ?_
        refine wp_aload_n dX9_thrower_44 rfl 0 rfl ?_
        refine wp_getR (q := b) fX9_68 rfl (rfl) (by decide) (hRb) dX9_thrower_45 ?_
        refine wp_getO (q := b + 4) fX9_157 hR rfl (hb) (bo_l0 hb) (by decide) rfl dX9_thrower_48 ?_
        refine wp_iload_n dX9_thrower_51 rfl 1 rfl ?_
        refine wp_iald h (rfl) (bo_k4 hb) (bo_l4 hb) (bo_i4 hb (by omega)) dX9_thrower_52 ?_
        refine wp_top (x' := (qB Q).2 4 h) ((hB.2.2.1 h (by omega)).1) ?_
        exact wp_iret hC rfl rfl dX9_thrower_53 (pP_ok (by unfold wThr; rw [if_neg c1, nI_clamp (by omega)]; unfold wThrN; rw [if_pos rfl]))
      · refine wp_tableIn (off := 40) 54 dX9_thrower_14 (by decide) (by decide) (by decide) (by decide) ?_
        refine wp_aload_n dX9_thrower_54 rfl 0 rfl ?_
        refine wp_getR (q := b) fX9_68 rfl (rfl) (by decide) (hRb) dX9_thrower_55 ?_
        refine wp_getO (q := b + 5) fX9_160 hR rfl (hb) (bo_l0 hb) (by decide) rfl dX9_thrower_58 ?_
        refine wp_iload_n dX9_thrower_61 rfl 1 rfl ?_
        refine wp_iald h (rfl) (bo_k5 hb) (bo_l5 hb) (bo_i5 hb (by omega)) dX9_thrower_62 ?_
        refine wp_top (x' := (qB Q).2 5 h) ((hB.2.2.1 h (by omega)).2.1) ?_
        exact wp_iret hC rfl rfl dX9_thrower_63 (pP_ok (by unfold wThr; rw [if_neg c1, nI_clamp (by omega)]; unfold wThrN; rw [if_neg (by decide), if_pos rfl]))
      · refine wp_tableIn (off := 50) 64 dX9_thrower_14 (by decide) (by decide) (by decide) (by decide) ?_
        refine wp_aload_n dX9_thrower_64 rfl 0 rfl ?_
        refine wp_getR (q := b) fX9_68 rfl (rfl) (by decide) (hRb) dX9_thrower_65 ?_
        refine wp_getO (q := b + 6) fX9_163 hR rfl (hb) (bo_l0 hb) (by decide) rfl dX9_thrower_68 ?_
        refine wp_iload_n dX9_thrower_71 rfl 1 rfl ?_
        refine wp_iald h (rfl) (bo_k6 hb) (bo_l6 hb) (bo_i6 hb (by omega)) dX9_thrower_72 ?_
        refine wp_top (x' := (qB Q).2 6 h) ((hB.2.2.1 h (by omega)).2.2) ?_
        exact wp_iret hC rfl rfl dX9_thrower_73 (pP_ok (by unfold wThr; rw [if_neg c1, nI_clamp (by omega)]; unfold wThrN; rw [if_neg (by decide), if_neg (by decide), if_pos rfl]))
      · refine wp_tableIn (off := 60) 74 dX9_thrower_14 (by decide) (by decide) (by decide) (by decide) ?_
        refine wp_aload_n dX9_thrower_74 rfl 0 rfl ?_
        refine wp_getR (q := b) fX9_68 rfl (rfl) (by decide) (hRb) dX9_thrower_75 ?_
        refine wp_iload_n dX9_thrower_78 rfl 1 rfl ?_
        refine wp_callP (e := forceP ((qB Q).2 5 h) ((qB Q).2 6 h)) (mm_siteV (av := [.int (nI h)]) hC lX9_166 (hb) (bo_l0 hb) ⟨_, rfl, rfl⟩ rfl rfl (Nat.le_of_ble_eq_true rfl) dX9_thrower_79) (cB_loosensBy l k _ _ _ _ _ _ (qB Q) hR hb hB hw hh) (by omega) (by decide) ?_
        exact wp_iret hC rfl rfl dX9_thrower_82 (pP_ok (by unfold wThr; rw [if_neg c1, nI_clamp (by omega)]; unfold wThrN; rw [if_neg (by decide), if_neg (by decide), if_neg (by decide), if_pos rfl]))
  · refine wp_iconst (v := (-1)) dX9_thrower_11 (by decide) ?_
    exact wp_iret hC rfl rfl dX9_thrower_12 (pP_ok (by unfold wThr; rw [if_pos c1]))

set_option maxRecDepth 100000 in
set_option maxHeartbeats 600000 in
theorem c_X9_refusalOfThrow (l : Launch) (k : Nat) (F A : mmF) (R : mmR) (G : mmG) (t pl lk : Int32) (Q : QV) (hX : RepX F A R G Q) (hwf : wfQ Q) : Meets l hX9_refusalOfThrow (k + 1) 144 144 [.ref 0, .int t, .int pl, .int lk] F A R G (pP (noTh Q t pl lk) F A R G) := by
  refine mm_start rfl (Nat.le_of_ble_eq_true rfl) (fun X hC => ?_)
  show WP hX9_refusalOfThrow X 144 0 [(0, .ref 0), (1, .int t), (2, .int pl), (3, .int lk)] [] F A R G
  obtain ⟨b, d, fi, hR, ⟨hRb, hRd, hb, hd, hbd⟩, ⟨hn, ht⟩, hB, hS, ⟨ha1, ha2, hfi, hac⟩, ⟨he, hes⟩, hk, hg⟩ := id hX
  obtain ⟨hw60, hw, hwS, hwA, hwE, hwK⟩ := id hwf
  have hw1 := hw.1
  have hb2 := bo_f hb
  have hd2 := bo_f hd
  refine wp_aload_n dX9_refusalOfThrow_0 rfl 0 rfl ?_
  refine wp_getR (q := b) fX9_68 rfl (rfl) (by decide) (hRb) dX9_refusalOfThrow_1 ?_
  refine wp_iload_n dX9_refusalOfThrow_4 rfl 1 rfl ?_
  refine wp_callP (e := isIn t (nI (qB Q).1.2.1)) (mm_siteV (av := [.int t]) hC lX9_154 (hb) (bo_l0 hb) ⟨_, rfl, rfl⟩ rfl rfl (Nat.le_of_ble_eq_true rfl) dX9_refusalOfThrow_5) (cB_isThrower l k _ _ _ _ _ _ (qB Q) hb hB) (by omega) (by decide) ?_
  refine wp_if_ne 13 dX9_refusalOfThrow_8 (by decide) (fun c1 => ?_) (fun c1 => ?_)
  · refine wp_iload_n dX9_refusalOfThrow_13 rfl 2 rfl ?_
    refine wp_callP (e := isIn pl 8) (mm_siteS (av := [.int pl]) hC lX9_259 rfl rfl (Nat.le_of_ble_eq_true rfl) dX9_refusalOfThrow_14) (c_X9_isPlace l k _ _ _ _ _) (by omega) (by decide) ?_
    refine wp_if_eq 34 dX9_refusalOfThrow_17 (by decide) (fun c2 => ?_) (fun c2 => ?_)
    · refine wp_bipush (v := (-2)) dX9_refusalOfThrow_34 (by decide) ?_
      exact wp_iret hC rfl rfl dX9_refusalOfThrow_36 (pP_ok (by unfold noTh; simp only [*, if_true, if_false]))
    · refine wp_iload_n dX9_refusalOfThrow_20 rfl 3 rfl ?_
      refine wp_if_lt 34 dX9_refusalOfThrow_21 (by decide) (fun c3 => ?_) (fun c3 => ?_)
      · refine wp_bipush (v := (-2)) dX9_refusalOfThrow_34 (by decide) ?_
        exact wp_iret hC rfl rfl dX9_refusalOfThrow_36 (pP_ok (by unfold noTh; simp only [*, if_true, if_false]))
      · refine wp_iload_n dX9_refusalOfThrow_24 rfl 3 rfl ?_
        refine wp_iconst (v := 2) dX9_refusalOfThrow_25 (by decide) ?_
        refine wp_icmp_gt 34 dX9_refusalOfThrow_26 (by decide) (fun c4 => ?_) (fun c4 => ?_)
        · refine wp_bipush (v := (-2)) dX9_refusalOfThrow_34 (by decide) ?_
          exact wp_iret hC rfl rfl dX9_refusalOfThrow_36 (pP_ok (by unfold noTh; simp only [*, if_true, if_false]))
        · refine wp_bipush (v := (-9)) dX9_refusalOfThrow_29 (by decide) ?_
          refine wp_goto 36 dX9_refusalOfThrow_31 (by decide) ?_
          exact wp_iret hC rfl rfl dX9_refusalOfThrow_36 (pP_ok (by unfold noTh; simp only [*, if_true, if_false]))
  · refine wp_iconst (v := (-1)) dX9_refusalOfThrow_11 (by decide) ?_
    exact wp_iret hC rfl rfl dX9_refusalOfThrow_12 (pP_ok (by unfold noTh; simp only [*, if_true, if_false]))

theorem noTh_nat {Q : QV} {t pl lk : Int32} (hw : wfB (qB Q)) (h : noTh Q t pl lk = -9) : (∃ j, j < (qB Q).1.2.1 ∧ t = nI j) ∧ (∃ p, p < 8 ∧ pl = nI p) ∧ ∃ q, q < 3 ∧ lk = nI q := by
  have hw1 := hw.1
  unfold noTh at h
  split at h
  · exact absurd h (by decide)
  · split at h
    · exact absurd h (by decide)
    · split at h
      · exact absurd h (by decide)
      · split at h
        · exact absurd h (by decide)
        · rename_i h1 h2 h3 h4
          refine ⟨isIn_nat (by omega) h1, isIn_nat (n := 8) (by decide) h2, ?_⟩
          obtain ⟨q, hq, rfl⟩ := nI_of h3
          have h5 : ¬ nI 2 < nI q := h4
          rw [nI_ltI (by decide) hq] at h5
          exact ⟨q, by omega, rfl⟩
set_option maxRecDepth 100000 in
set_option maxHeartbeats 600000 in
theorem c_X9_lands (l : Launch) (k : Nat) (F A : mmF) (R : mmR) (G : mmG) (t pl lk : Int32) (Q : QV) (hX : RepX F A R G Q) (hwf : wfQ Q) : Meets l hX9_lands (k + 2) 144 144 [.ref 0, .int t, .int pl, .int lk] F A R G (pP (wLands Q t pl lk) F A R G) := by
  refine mm_start rfl (Nat.le_of_ble_eq_true rfl) (fun X hC => ?_)
  show WP hX9_lands X 144 0 [(0, .ref 0), (1, .int t), (2, .int pl), (3, .int lk)] [] F A R G
  obtain ⟨b, d, fi, hR, ⟨hRb, hRd, hb, hd, hbd⟩, ⟨hn, ht⟩, hB, hS, ⟨ha1, ha2, hfi, hac⟩, ⟨he, hes⟩, hk, hg⟩ := id hX
  obtain ⟨hw60, hw, hwS, hwA, hwE, hwK⟩ := id hwf
  have hw1 := hw.1
  have hb2 := bo_f hb
  have hd2 := bo_f hd
  refine wp_aload_n dX9_lands_0 rfl 0 rfl ?_
  refine wp_iload_n dX9_lands_1 rfl 1 rfl ?_
  refine wp_iload_n dX9_lands_2 rfl 2 rfl ?_
  refine wp_iload_n dX9_lands_3 rfl 3 rfl ?_
  refine wp_callP (e := noTh Q t pl lk) (mm_siteV (av := [.int t, .int pl, .int lk]) hC lX9_170 (rfl) (by decide) ⟨_, rfl, rfl⟩ rfl rfl (Nat.le_of_ble_eq_true rfl) dX9_lands_4) (c_X9_refusalOfThrow l k _ _ _ _ _ _ _ Q hX hwf) (by omega) (by decide) ?_
  refine wp_istore [1, 2, 3, 4, 0] (by decide) rfl rfl rfl dX9_lands_7 ?_
  refine wp_iload dX9_lands_9 4 rfl ?_
  refine wp_bipush (v := (-9)) dX9_lands_11 (by decide) ?_
  refine wp_icmp_eq 21 dX9_lands_13 (by decide) (fun c1 => ?_) (fun c1 => ?_)
  · obtain ⟨⟨t, htn, rfl⟩, ⟨pp, hpp, hpe⟩, qq, hqq, hqe⟩ := noTh_nat hw c1
    refine wp_aload_n dX9_lands_21 rfl 0 rfl ?_
    refine wp_getR (q := b) fX9_68 rfl (rfl) (by decide) (hRb) dX9_lands_22 ?_
    refine wp_iload_n dX9_lands_25 rfl 1 rfl ?_
    refine wp_iload_n dX9_lands_26 rfl 2 rfl ?_
    refine wp_iload_n dX9_lands_27 rfl 3 rfl ?_
    refine wp_aload_n dX9_lands_28 rfl 0 rfl ?_
    refine wp_getO (q := 3) fX9_19 hR rfl (rfl) (by decide) (by decide) rfl dX9_lands_29 ?_
    refine wp_getI fX9_108 rfl (rfl) (by decide) dX9_lands_32 ?_
    refine wp_top (x' := (qS Q).2.2 5) (hS.2.2.2.2.2.1) ?_
    refine wp_callP (e := landP ((qB Q).2 4 t) ((qB Q).2 6 t) pl lk ((qS Q).2.2 5)) (mm_siteV (av := [.int (nI t), .int pl, .int lk, .int ((qS Q).2.2 5)]) hC lX9_174 (hb) (bo_l0 hb) ⟨_, rfl, rfl⟩ rfl rfl (Nat.le_of_ble_eq_true rfl) dX9_lands_35) (cB_landing l k _ _ _ _ _ _ _ _ _ (qB Q) hR hb hB hw htn) (by omega) (by decide) ?_
    exact wp_iret hC rfl rfl dX9_lands_38 (pP_ok (by unfold wLands; rw [if_pos c1, nI_clamp (by omega)]))
  · refine wp_iload dX9_lands_16 4 rfl ?_
    refine wp_goto 38 dX9_lands_18 (by decide) ?_
    exact wp_iret hC rfl rfl dX9_lands_38 (pP_ok (by unfold wLands; rw [if_neg c1]))

