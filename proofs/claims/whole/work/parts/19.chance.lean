/-- the ways, of m throws by luck at the place pl, by which the husk is down -/
def wayP (B : BV) (t : Nat) (pl xt : Int32) (hk : Nat) : Nat → SV → Int32
  | 0, S => if upP (S.2.2 2) (nI hk) = 0 then 1 else 0
  | m + 1, S => (List.range' 0 3).foldl (fun q lk => q + (if lk = 0 then 2 * xt else 10 - xt) * wayP B t pl xt hk m (throwP B S t pl (nI lk)).1) 0
def drawP (B : BV) (S : SV) (x : Nat) : SV := if x / 24 < B.1.2.1 then (throwP B S (x / 24) (nI (x % 24 / 3)) (nI (x % 3))).1 else S
theorem dn_throw {B : BV} {S : SV} {t : Nat} {pl lk : Int32} (hw : wfB B) (hd : dn S) : dn (throwP B S t pl lk).1 := by
  have hw1 := hw.1
  rcases hAt_or (B.2 1) (landP (B.2 4 t) (B.2 6 t) pl lk (S.2.2 5)) B.1.1 0 with h | ⟨j, -, hj, h, -⟩
  · rw [throwP_off h]; exact hd
  · rw [throwP_at (j := j) h (by omega)]; split
    · exact dn_strike hw (by omega) hd
    · exact hd
theorem dn_draw {B : BV} {S : SV} {x : Nat} (hw : wfB B) (hd : dn S) : dn (drawP B S x) := by
  unfold drawP; split
  · exact dn_throw hw hd
  · exact hd
set_option maxRecDepth 100000 in
set_option maxHeartbeats 1000000 in
theorem c_X2_waysFrom (l : Launch) (k : Nat) (R : mmR) (G : mmG) (b t hk : Nat) (pl xt : Int32) (B : BV) (hR : mm_RL R) (hb : mm_K b = 1) (hw : wfB B) (ht : t < B.1.2.1) : ∀ (m : Nat) (F A : mmF) (S : SV) (d many : Nat), d + m = many → many ≤ 4 → (F 86 1 = nI t ∧ F 86 2 = pl ∧ F 86 3 = xt) → isS F A (88 + 3 * d) S → isB F A b B → Meets l hX2_waysFrom (k + m + 12) 144 144 [.ref 86, .ref b, .int (nI hk), .int (nI d), .int (nI many)] F A R G (pI (fun v F1 A1 R1 G1 => v = wayP B t pl xt hk m S ∧ frI (88 + 3 * (d + 1)) 102 F A F1 A1 ∧ R = R1 ∧ G = G1)) := by
  intro m
  induction m with
  | zero =>
    intro F A S d many hd hm hx hS hB
    refine mm_start rfl (Nat.le_of_ble_eq_true rfl) (fun X hC => ?_)
    show WP hX2_waysFrom X 144 0 [(0, .ref 86), (1, .ref b), (2, .int (nI hk)), (3, .int (nI d)), (4, .int (nI many))] [] F A R G
    have hw1 := hw.1
    have hB0 := hB
    have hx0 := hx
    have hb2 : 103 ≤ b := by rcases bo_f hb with rfl | rfl <;> decide
    refine wp_aload_n dX2_waysFrom_0 rfl 0 rfl ?_
    refine wp_getO (q := 87) fX2_13 hR rfl (rfl) (by decide) (by decide) rfl dX2_waysFrom_1 ?_
    refine wp_iload_n dX2_waysFrom_4 rfl 3 rfl ?_
    obtain ⟨a, hae⟩ : ∃ a, a = 88 + 3 * d := ⟨_, rfl⟩
    have ha : mm_K a = 7 := by rw [hae]; exact ch_K (by omega)
    rw [← hae] at hS
    have hS0 := hS
    refine wp_aaldO (q := a) hR d (rfl) (rfl) (by decide) ((show d < 5 from by omega)) (hae.symm) dX2_waysFrom_5 ?_
    refine wp_astore [1, 2, 3, 4, 5, 0] (by decide) rfl rfl rfl dX2_waysFrom_6 ?_
    refine wp_iload_n dX2_waysFrom_8 rfl 3 rfl ?_
    refine wp_iload dX2_waysFrom_9 4 rfl ?_
    refine wp_icmp_ge 19 dX2_waysFrom_11 (by decide) (fun c1 => ?_) (fun c1 => ?_)
    · replace c1 := (ix_le (a := many) (b := d) (rfl) (rfl) (by omega) (by omega)).mp c1
      refine wp_aload dX2_waysFrom_19 5 rfl ?_
      refine wp_iload_n dX2_waysFrom_21 rfl 2 rfl ?_
      refine wp_callP (e := upP (S.2.2 2) (nI hk)) (mm_siteV (av := [.int (nI hk)]) hC lX2_39 (ha) (st_l0 ha) ⟨_, rfl, rfl⟩ rfl rfl (Nat.le_of_ble_eq_true rfl) dX2_waysFrom_22) (cS_isUp l (k + 10) _ _ _ _ _ _ _ ha hS) (by omega) (by decide) ?_
      refine wp_if_eq 32 dX2_waysFrom_25 (by decide) (fun c2 => ?_) (fun c2 => ?_)
      · refine wp_iconst (v := 1) dX2_waysFrom_32 (by decide) ?_
        exact wp_iret hC rfl rfl dX2_waysFrom_33 (pI_ok (by rw [wayP]; exact ⟨by simp [*], frI.refl _ _ F A, rfl, rfl⟩))
      · refine wp_iconst (v := 0) dX2_waysFrom_28 (by decide) ?_
        refine wp_goto 33 dX2_waysFrom_29 (by decide) ?_
        exact wp_iret hC rfl rfl dX2_waysFrom_33 (pI_ok (by rw [wayP]; exact ⟨by simp [*], frI.refl _ _ F A, rfl, rfl⟩))
    · replace c1 := mt (ix_le (a := many) (b := d) (rfl) (rfl) (by omega) (by omega)).mpr c1
      exact absurd c1 (by omega)
  | succ m ih =>
    intro F A S d many hd hm hx hS hB
    refine mm_start rfl (Nat.le_of_ble_eq_true rfl) (fun X hC => ?_)
    show WP hX2_waysFrom X 144 0 [(0, .ref 86), (1, .ref b), (2, .int (nI hk)), (3, .int (nI d)), (4, .int (nI many))] [] F A R G
    have hw1 := hw.1
    have hB0 := hB
    have hx0 := hx
    have hb2 : 103 ≤ b := by rcases bo_f hb with rfl | rfl <;> decide
    refine wp_aload_n dX2_waysFrom_0 rfl 0 rfl ?_
    refine wp_getO (q := 87) fX2_13 hR rfl (rfl) (by decide) (by decide) rfl dX2_waysFrom_1 ?_
    refine wp_iload_n dX2_waysFrom_4 rfl 3 rfl ?_
    obtain ⟨a, hae⟩ : ∃ a, a = 88 + 3 * d := ⟨_, rfl⟩
    have ha : mm_K a = 7 := by rw [hae]; exact ch_K (by omega)
    rw [← hae] at hS
    have hS0 := hS
    refine wp_aaldO (q := a) hR d (rfl) (rfl) (by decide) ((show d < 5 from by omega)) (hae.symm) dX2_waysFrom_5 ?_
    refine wp_astore [1, 2, 3, 4, 5, 0] (by decide) rfl rfl rfl dX2_waysFrom_6 ?_
    refine wp_iload_n dX2_waysFrom_8 rfl 3 rfl ?_
    refine wp_iload dX2_waysFrom_9 4 rfl ?_
    refine wp_icmp_ge 19 dX2_waysFrom_11 (by decide) (fun c1 => ?_) (fun c1 => ?_)
    · replace c1 := (ix_le (a := many) (b := d) (rfl) (rfl) (by omega) (by omega)).mp c1
      exact absurd c1 (by omega)
    · replace c1 := mt (ix_le (a := many) (b := d) (rfl) (rfl) (by omega) (by omega)).mpr c1
      refine wp_iload_n dX2_waysFrom_14 rfl 3 rfl ?_
      refine wp_iconst (v := 4) dX2_waysFrom_15 (by decide) ?_
      refine wp_icmp_lt 34 dX2_waysFrom_16 (by decide) (fun c2 => ?_) (fun c2 => ?_)
      · replace c2 := (ix_lt (a := d) (b := 4) (rfl) (rfl) (by omega) (by omega)).mp c2
        refine wp_iconst (v := 0) dX2_waysFrom_34 (by decide) ?_
        refine wp_istore [1, 2, 3, 4, 5, 6, 0] (by decide) rfl rfl rfl dX2_waysFrom_35 ?_
        refine wp_iconst (v := 0) dX2_waysFrom_37 (by decide) ?_
        refine wp_istore [1, 2, 3, 4, 5, 6, 7, 0] (by decide) rfl rfl rfl dX2_waysFrom_38 ?_
        have lp : ∀ (nn : Nat) (lk : Nat) (q : Int32) (F1 A1 : mmF), (lk ≤ 3) → (wayP B t pl xt hk (m + 1) S = (List.range' lk (3 - lk)).foldl (fun q lk => q + (if lk = 0 then 2 * xt else 10 - xt) * wayP B t pl xt hk m (throwP B S t pl (nI lk)).1) q) → (isS F1 A1 a S) → (frI (88 + 3 * (d + 1)) 102 F A F1 A1) → 3 - lk < nn → WP hX2_waysFrom X 144 40 [(0, .ref 86), (1, .ref b), (2, .int (nI hk)), (3, .int (nI d)), (4, .int (nI many)), (5, .ref a), (6, .int q), (7, .int (nI lk))] [] F1 A1 R G := by
          intro nn
          induction nn with
          | zero => intro lk q F1 A1 _ _ _ _ hm; exact absurd hm (Nat.not_lt_zero _)
          | succ nn ih_lp =>
            intro lk q F1 A1 hlk hv hS hf hm_lp
            have hB := hf.b (by omega) hB0
            have hx : F1 86 1 = nI t ∧ F1 86 2 = pl ∧ F1 86 3 = xt := by rw [(hf 86 (by omega)).1]; exact hx0
            refine wp_iload dX2_waysFrom_40 7 rfl ?_
            refine wp_iconst (v := 2) dX2_waysFrom_42 (by decide) ?_
            refine wp_icmp_gt 128 dX2_waysFrom_43 (by decide) (fun c3 => ?_) (fun c3 => ?_)
            · replace c3 := (ix_lt (a := 2) (b := lk) (rfl) (rfl) (by omega) (by omega)).mp c3
              refine wp_iload dX2_waysFrom_128 6 rfl ?_
              exact wp_iret hC rfl rfl dX2_waysFrom_130 (pI_ok ⟨by rw [hv, show 3 - lk = 0 by omega]; rfl, hf, rfl, rfl⟩)
            · replace c3 := mt (ix_lt (a := 2) (b := lk) (rfl) (rfl) (by omega) (by omega)).mpr c3
              refine wp_aload_n dX2_waysFrom_46 rfl 0 rfl ?_
              refine wp_getO (q := 87) fX2_13 hR rfl (rfl) (by decide) (by decide) rfl dX2_waysFrom_47 ?_
              refine wp_iload_n dX2_waysFrom_50 rfl 3 rfl ?_
              refine wp_iconst (v := 1) dX2_waysFrom_51 (by decide) ?_
              refine wp_iadd dX2_waysFrom_52 ?_
              refine wp_top (x' := nI (d + 1)) (nI_1 d) ?_
              obtain ⟨c, hce⟩ : ∃ c, c = 88 + 3 * (d + 1) := ⟨_, rfl⟩
              have hc : mm_K c = 7 := by rw [hce]; exact ch_K (by omega)
              refine wp_aaldO (q := c) hR (d + 1) (rfl) (rfl) (by decide) ((show d + 1 < 5 from by omega)) (hce.symm) dX2_waysFrom_53 ?_
              refine wp_astore [1, 2, 3, 4, 5, 6, 7, 8, 0] (by decide) rfl rfl rfl dX2_waysFrom_54 ?_
              refine wp_aload dX2_waysFrom_56 8 rfl ?_
              refine wp_aload dX2_waysFrom_58 5 rfl ?_
              refine wp_callV (mm_siteV (av := [.ref a]) hC lX2_29 (hc) (st_l0 hc) ⟨_, rfl, rfl⟩ rfl rfl (Nat.le_of_ble_eq_true rfl) dX2_waysFrom_60) (c_X7_becomeAs l (k + m + 10) _ _ _ _ _ _ S hR hc ha (by omega) hS) (by omega) (by decide) (by decide) ?_
              rintro F3 A3 _ _ ⟨hS3, hg3, rfl, rfl⟩
              have hB3 := hg3.b hc hb hB
              have hx : F3 86 1 = nI t ∧ F3 86 2 = pl ∧ F3 86 3 = xt := by rw [hg3.1 86 (by omega)]; exact hx
              refine wp_aload dX2_waysFrom_63 8 rfl ?_
              refine wp_aload_n dX2_waysFrom_65 rfl 1 rfl ?_
              refine wp_aload_n dX2_waysFrom_66 rfl 0 rfl ?_
              refine wp_getI fX2_19 rfl (rfl) (by decide) dX2_waysFrom_67 ?_
              refine wp_top (x' := nI t) (hx.1) ?_
              refine wp_aload_n dX2_waysFrom_70 rfl 0 rfl ?_
              refine wp_getI fX2_23 rfl (rfl) (by decide) dX2_waysFrom_71 ?_
              refine wp_top (x' := pl) (hx.2.1) ?_
              refine wp_iload dX2_waysFrom_74 7 rfl ?_
              refine wp_callI (mm_siteV (av := [.ref b, .int (nI t), .int pl, .int (nI lk)]) hC lX2_43 (hc) (st_l0 hc) ⟨_, rfl, rfl⟩ rfl rfl (Nat.le_of_ble_eq_true rfl) dX2_waysFrom_76) (c_X7_throwBy l (k + m + 1) _ _ _ _ _ _ t pl (nI lk) S B hR hc hb hS3 hB3 hw ht) (by omega) (by decide) ?_
              rintro _ F4 A4 _ _ ⟨rfl, hS4, hg4, rfl, rfl⟩
              have hB4 := hg4.b hc hb hB3
              rw [hce] at hS4
              have hx : F4 86 1 = nI t ∧ F4 86 2 = pl ∧ F4 86 3 = xt := by rw [hg4.1 86 (by omega)]; exact hx
              refine wp_pop dX2_waysFrom_79 rfl ?_
              refine wp_iload dX2_waysFrom_80 7 rfl ?_
              refine wp_if_ne 94 dX2_waysFrom_82 (by decide) (fun c4 => ?_) (fun c4 => ?_)
              · replace c4 := mt (ix_eq (a := lk) (b := 0) (rfl) (rfl) (by omega) (by omega)).mpr c4
                refine wp_bipush (v := 10) dX2_waysFrom_94 (by decide) ?_
                refine wp_aload_n dX2_waysFrom_96 rfl 0 rfl ?_
                refine wp_getI fX2_26 rfl (rfl) (by decide) dX2_waysFrom_97 ?_
                refine wp_top (x' := xt) (hx.2.2) ?_
                refine wp_isub dX2_waysFrom_100 ?_
                refine wp_istore [1, 2, 3, 4, 5, 6, 7, 8, 9, 0] (by decide) rfl rfl rfl dX2_waysFrom_101 ?_
                refine wp_iload dX2_waysFrom_103 6 rfl ?_
                refine wp_iload dX2_waysFrom_105 9 rfl ?_
                refine wp_aload_n dX2_waysFrom_107 rfl 0 rfl ?_
                refine wp_aload_n dX2_waysFrom_108 rfl 1 rfl ?_
                refine wp_iload_n dX2_waysFrom_109 rfl 2 rfl ?_
                refine wp_iload_n dX2_waysFrom_110 rfl 3 rfl ?_
                refine wp_iconst (v := 1) dX2_waysFrom_111 (by decide) ?_
                refine wp_iadd dX2_waysFrom_112 ?_
                refine wp_top (x' := nI (d + 1)) (nI_1 d) ?_
                refine wp_iload dX2_waysFrom_113 4 rfl ?_
                refine wp_callI (mm_siteS (av := [.ref 86, .ref b, .int (nI hk), .int (nI (d + 1)), .int (nI many)]) hC lX2_35 rfl rfl (Nat.le_of_ble_eq_true rfl) dX2_waysFrom_115) (ih _ _ (throwP B S t pl (nI lk)).1 (d + 1) many (by omega) (by omega) hx hS4 hB4) (by omega) (by decide) ?_
                rintro _ F5 A5 _ _ ⟨rfl, hg5, rfl, rfl⟩
                have hf := hf.trans (((hg3.I (lo := 88 + 3 * (d + 1)) (hi := 102) (by omega) (by omega)).trans (hg4.I (by omega) (by omega))).trans (hg5.wide (by omega) (by omega)))
                have hS : isS F5 A5 a S := hf.s (by omega) hS0
                refine wp_imul dX2_waysFrom_118 ?_
                refine wp_iadd dX2_waysFrom_119 ?_
                refine wp_istore [1, 2, 3, 4, 5, 6, 0, 8, 9, 10] (by decide) rfl rfl rfl dX2_waysFrom_120 ?_
                refine wp_iinc (v := nI (lk + 1)) 7 rfl (by exact nI_1 lk) [1, 2, 3, 4, 5, 6, 7, 0, 9, 10] (by decide) rfl rfl rfl dX2_waysFrom_122 ?_
                refine wp_goto 40 dX2_waysFrom_125 (by decide) ?_
                refine wp_lv [0, 1, 2, 3, 4, 5, 6, 7] rfl ?_
                exact ih_lp (lk + 1) _ F5 A5 (by omega) (by rw [hv, show 3 - lk = 3 - (lk + 1) + 1 by omega, List.range'_succ, List.foldl_cons]; simp only [*, if_true, if_false]) hS hf (by omega)
              · replace c4 := (ix_eq (a := lk) (b := 0) (rfl) (rfl) (by omega) (by omega)).mp c4
                refine wp_iconst (v := 2) dX2_waysFrom_85 (by decide) ?_
                refine wp_aload_n dX2_waysFrom_86 rfl 0 rfl ?_
                refine wp_getI fX2_26 rfl (rfl) (by decide) dX2_waysFrom_87 ?_
                refine wp_top (x' := xt) (hx.2.2) ?_
                refine wp_imul dX2_waysFrom_90 ?_
                refine wp_goto 101 dX2_waysFrom_91 (by decide) ?_
                refine wp_istore [1, 2, 3, 4, 5, 6, 7, 8, 9, 0] (by decide) rfl rfl rfl dX2_waysFrom_101 ?_
                refine wp_iload dX2_waysFrom_103 6 rfl ?_
                refine wp_iload dX2_waysFrom_105 9 rfl ?_
                refine wp_aload_n dX2_waysFrom_107 rfl 0 rfl ?_
                refine wp_aload_n dX2_waysFrom_108 rfl 1 rfl ?_
                refine wp_iload_n dX2_waysFrom_109 rfl 2 rfl ?_
                refine wp_iload_n dX2_waysFrom_110 rfl 3 rfl ?_
                refine wp_iconst (v := 1) dX2_waysFrom_111 (by decide) ?_
                refine wp_iadd dX2_waysFrom_112 ?_
                refine wp_top (x' := nI (d + 1)) (nI_1 d) ?_
                refine wp_iload dX2_waysFrom_113 4 rfl ?_
                refine wp_callI (mm_siteS (av := [.ref 86, .ref b, .int (nI hk), .int (nI (d + 1)), .int (nI many)]) hC lX2_35 rfl rfl (Nat.le_of_ble_eq_true rfl) dX2_waysFrom_115) (ih _ _ (throwP B S t pl (nI lk)).1 (d + 1) many (by omega) (by omega) hx hS4 hB4) (by omega) (by decide) ?_
                rintro _ F5 A5 _ _ ⟨rfl, hg5, rfl, rfl⟩
                have hf := hf.trans (((hg3.I (lo := 88 + 3 * (d + 1)) (hi := 102) (by omega) (by omega)).trans (hg4.I (by omega) (by omega))).trans (hg5.wide (by omega) (by omega)))
                have hS : isS F5 A5 a S := hf.s (by omega) hS0
                refine wp_imul dX2_waysFrom_118 ?_
                refine wp_iadd dX2_waysFrom_119 ?_
                refine wp_istore [1, 2, 3, 4, 5, 6, 0, 8, 9, 10] (by decide) rfl rfl rfl dX2_waysFrom_120 ?_
                refine wp_iinc (v := nI (lk + 1)) 7 rfl (by exact nI_1 lk) [1, 2, 3, 4, 5, 6, 7, 0, 9, 10] (by decide) rfl rfl rfl dX2_waysFrom_122 ?_
                refine wp_goto 40 dX2_waysFrom_125 (by decide) ?_
                refine wp_lv [0, 1, 2, 3, 4, 5, 6, 7] rfl ?_
                exact ih_lp (lk + 1) _ F5 A5 (by omega) (by rw [hv, show 3 - lk = 3 - (lk + 1) + 1 by omega, List.range'_succ, List.foldl_cons]; simp only [*, if_true, if_false]) hS hf (by omega)
        exact lp (3 + 1) 0 0 F A (by decide) rfl hS (frI.refl _ _ F A) (by omega)
      · replace c2 := mt (ix_lt (a := d) (b := 4) (rfl) (rfl) (by omega) (by omega)).mpr c2
        exact absurd c2 (by omega)
set_option maxRecDepth 100000 in
set_option maxHeartbeats 600000 in
theorem c_X2_waysDown (l : Launch) (k : Nat) (F A : mmF) (R : mmR) (G : mmG) (b : Nat) (t hk many : Nat) (pl xt : Int32) (S : SV) (B : BV) (hR : mm_RL R) (hb : mm_K b = 1) (hS : isS F A 3 S) (hB : isB F A b B) (hw : wfB B) (ht : t < B.1.2.1) (hm : many ≤ 4) (hx : F 86 1 = nI t ∧ F 86 2 = pl ∧ F 86 3 = xt) : Meets l hX2_waysDown (k + 17) 144 144 [.ref 86, .ref b, .ref 3, .int (nI hk), .int (nI many)] F A R G (pI (fun v F1 A1 R1 G1 => v = wayP B t pl xt hk many S ∧ frI 88 102 F A F1 A1 ∧ R = R1 ∧ G = G1)) := by
  refine mm_start rfl (Nat.le_of_ble_eq_true rfl) (fun X hC => ?_)
  show WP hX2_waysDown X 144 0 [(0, .ref 86), (1, .ref b), (2, .ref 3), (3, .int (nI hk)), (4, .int (nI many))] [] F A R G
  have hw1 := hw.1
  have hb2 : 103 ≤ b := by rcases bo_f hb with rfl | rfl <;> decide
  refine wp_aload_n dX2_waysDown_0 rfl 0 rfl ?_
  refine wp_getO (q := 87) fX2_13 hR rfl (rfl) (by decide) (by decide) rfl dX2_waysDown_1 ?_
  refine wp_iconst (v := 0) dX2_waysDown_4 (by decide) ?_
  refine wp_aaldO (q := 88) hR 0 (rfl) (rfl) (by decide) ((show 0 < 5 from by decide)) (rfl) dX2_waysDown_5 ?_
  refine wp_aload_n dX2_waysDown_6 rfl 2 rfl ?_
  refine wp_callV (mm_siteV (av := [.ref 3]) hC lX2_29 (rfl) (by decide) ⟨_, rfl, rfl⟩ rfl rfl (Nat.le_of_ble_eq_true rfl) dX2_waysDown_7) (c_X7_becomeAs l (k + 14) _ _ _ _ _ _ S hR (rfl) (rfl) (by decide) hS) (by omega) (by decide) (by decide) ?_
  rintro F3 A3 _ _ ⟨hS3, hg3, rfl, rfl⟩
  have hB3 := hg3.b (rfl) hb hB
  refine wp_aload_n dX2_waysDown_10 rfl 0 rfl ?_
  refine wp_aload_n dX2_waysDown_11 rfl 1 rfl ?_
  refine wp_iload_n dX2_waysDown_12 rfl 3 rfl ?_
  refine wp_iconst (v := 0) dX2_waysDown_13 (by decide) ?_
  refine wp_iload dX2_waysDown_14 4 rfl ?_
  have hx : F3 86 1 = nI t ∧ F3 86 2 = pl ∧ F3 86 3 = xt := by rw [hg3.1 86 (by decide)]; exact hx
  refine wp_callI (mm_siteS (av := [.ref 86, .ref b, .int (nI hk), .int 0, .int (nI many)]) hC lX2_35 rfl rfl (Nat.le_of_ble_eq_true rfl) dX2_waysDown_16) (c_X2_waysFrom l (k + (4 - many)) _ _ b t hk pl xt B hR hb hw ht many _ _ S 0 many (by omega) hm hx hS3 hB3) (by omega) (by decide) ?_
  rintro _ F4 A4 _ _ ⟨rfl, hg4, rfl, rfl⟩
  exact wp_iret hC rfl rfl dX2_waysDown_19 (pI_ok ⟨rfl, (hg3.I (a := 88) (by decide) (by decide)).trans (hg4.wide (by omega) (by omega)), rfl, rfl⟩)

set_option maxRecDepth 100000 in
set_option maxHeartbeats 600000 in
theorem c_X2_allWays (l : Launch) (k : Nat) (F A : mmF) (R : mmR) (G : mmG) (n : Nat) (hn : n ≤ 4) : Meets l hX2_allWays k 144 144 [.int (nI n)] F A R G (pP (nI (20 ^ n)) F A R G) := by
  refine mm_start rfl (Nat.le_of_ble_eq_true rfl) (fun X hC => ?_)
  show WP hX2_allWays X 144 0 [(0, .int (nI n))] [] F A R G
  refine wp_iconst (v := 1) dX2_allWays_0 (by decide) ?_
  refine wp_istore_n [1, 0] (by decide) rfl rfl rfl dX2_allWays_1 rfl ?_
  refine wp_iconst (v := 0) dX2_allWays_2 (by decide) ?_
  refine wp_istore_n [1, 2, 0] (by decide) rfl rfl rfl dX2_allWays_3 rfl ?_
  have lp : ∀ (nn : Nat) (i : Nat), (i ≤ n) → n - i < nn → WP hX2_allWays X 144 4 [(0, .int (nI n)), (1, .int (nI (20 ^ i))), (2, .int (nI i))] [] F A R G := by
    intro nn
    induction nn with
    | zero => intro i _ hm; exact absurd hm (Nat.not_lt_zero _)
    | succ nn ih_lp =>
      intro i hi hm_lp
      refine wp_iload_n dX2_allWays_4 rfl 2 rfl ?_
      refine wp_iload_n dX2_allWays_5 rfl 0 rfl ?_
      refine wp_icmp_ge 20 dX2_allWays_6 (by decide) (fun c1 => ?_) (fun c1 => ?_)
      · replace c1 := (ix_le (a := n) (b := i) (rfl) (rfl) (by omega) (by omega)).mp c1
        refine wp_iload_n dX2_allWays_20 rfl 1 rfl ?_
        exact wp_iret hC rfl rfl dX2_allWays_21 (pP_ok (by rw [show i = n by omega]))
      · replace c1 := mt (ix_le (a := n) (b := i) (rfl) (rfl) (by omega) (by omega)).mpr c1
        refine wp_iload_n dX2_allWays_9 rfl 1 rfl ?_
        refine wp_bipush (v := 20) dX2_allWays_10 (by decide) ?_
        refine wp_imul dX2_allWays_12 ?_
        refine wp_top (x' := nI (20 ^ (i + 1))) ((pk_mul (20 ^ i) 20).trans (by rw [Nat.pow_succ])) ?_
        refine wp_istore_n [1, 0, 3] (by decide) rfl rfl rfl dX2_allWays_13 rfl ?_
        refine wp_iinc (v := nI (i + 1)) 2 rfl (by exact nI_1 i) [1, 2, 0] (by decide) rfl rfl rfl dX2_allWays_14 ?_
        refine wp_goto 4 dX2_allWays_17 (by decide) ?_
        exact ih_lp (i + 1) (by omega) (by omega)
  exact lp (n + 1) 0 (Nat.zero_le _) (by omega)

set_option maxRecDepth 100000 in
set_option maxHeartbeats 600000 in
theorem c_X2_startFrom (l : Launch) (k : Nat) (F A : mmF) (R : mmR) (G : mmG) (S : SV) (hR : mm_RL R) (hS : isS F A 3 S) : Meets l hX2_startFrom (k + 3) 144 144 [.ref 86, .ref 3] F A R G (pV (fun F1 A1 R1 G1 => isS F1 A1 88 S ∧ fr 88 F A F1 A1 ∧ R = R1 ∧ G = G1)) := by
  refine mm_start rfl (Nat.le_of_ble_eq_true rfl) (fun X hC => ?_)
  show WP hX2_startFrom X 144 0 [(0, .ref 86), (1, .ref 3)] [] F A R G
  refine wp_aload_n dX2_startFrom_0 rfl 0 rfl ?_
  refine wp_getO (q := 87) fX2_13 hR rfl (rfl) (by decide) (by decide) rfl dX2_startFrom_1 ?_
  refine wp_iconst (v := 0) dX2_startFrom_4 (by decide) ?_
  refine wp_aaldO (q := 88) hR 0 (rfl) (rfl) (by decide) ((show 0 < 5 from by decide)) (rfl) dX2_startFrom_5 ?_
  refine wp_aload_n dX2_startFrom_6 rfl 1 rfl ?_
  refine wp_callV (mm_siteV (av := [.ref 3]) hC lX2_29 (rfl) (by decide) ⟨_, rfl, rfl⟩ rfl rfl (Nat.le_of_ble_eq_true rfl) dX2_startFrom_7) (c_X7_becomeAs l k _ _ _ _ _ _ S hR rfl rfl (by decide) hS) (by omega) (by decide) (by decide) ?_
  rintro F3 A3 _ _ ⟨hS3, hg3, rfl, rfl⟩
  exact wp_vret hC rfl dX2_startFrom_10 (pV_ok ⟨hS3, hg3, rfl, rfl⟩)

set_option maxRecDepth 100000 in
set_option maxHeartbeats 600000 in
theorem c_X2_downBehindDrawn (l : Launch) (k : Nat) (F A : mmF) (R : mmR) (G : mmG) (b x : Nat) (S : SV) (B : BV) (hR : mm_RL R) (hb : mm_K b = 1) (hS : isS F A 88 S) (hd : dn S) (hB : isB F A b B) (hw : wfB B) (hx : x < 96) : Meets l hX2_downBehindDrawn (k + 12) 144 144 [.ref 86, .ref b, .int (nI x)] F A R G (pI (fun v F1 A1 R1 G1 => v = manyP ((drawP B S x).2.2 2) ∧ isS F1 A1 88 (drawP B S x) ∧ fr 88 F A F1 A1 ∧ R = R1 ∧ G = G1)) := by
  refine mm_start rfl (Nat.le_of_ble_eq_true rfl) (fun X hC => ?_)
  show WP hX2_downBehindDrawn X 144 0 [(0, .ref 86), (1, .ref b), (2, .int (nI x))] [] F A R G
  have hw1 := hw.1
  refine wp_iload_n dX2_downBehindDrawn_0 rfl 2 rfl ?_
  refine wp_bipush (v := 24) dX2_downBehindDrawn_1 (by decide) ?_
  refine wp_idiv dX2_downBehindDrawn_3 (by decide) ?_
  refine wp_top (x' := nI (x / 24)) (ix_div (a := x) (b := 24) rfl rfl (by omega) (by decide) (by decide)) ?_
  refine wp_istore_n [1, 2, 3, 0] (by decide) rfl rfl rfl dX2_downBehindDrawn_4 rfl ?_
  refine wp_aload_n dX2_downBehindDrawn_5 rfl 1 rfl ?_
  refine wp_iload_n dX2_downBehindDrawn_6 rfl 3 rfl ?_
  refine wp_callP (e := if x / 24 < B.1.2.1 then 1 else 0) (mm_siteV (av := [.int (nI (x / 24))]) hC lX2_47 (hb) (bo_l0 hb) ⟨_, rfl, rfl⟩ rfl rfl (Nat.le_of_ble_eq_true rfl) dX2_downBehindDrawn_7) (cN_isThrower l (k + 11) _ _ _ _ _ (x / 24) B hb hB hw (by omega)) (by omega) (by decide) ?_
  refine wp_if_eq 34 dX2_downBehindDrawn_10 (by decide) (fun c1 => ?_) (fun c1 => ?_)
  · rw [ite01] at c1
    have hdr : drawP B S x = S := by unfold drawP; rw [if_neg c1]
    rw [← hdr] at hS
    have hf := fr.refl 88 F A
    refine wp_aload_n dX2_downBehindDrawn_34 rfl 0 rfl ?_
    refine wp_getO (q := 87) fX2_13 hR rfl (rfl) (by decide) (by decide) rfl dX2_downBehindDrawn_35 ?_
    refine wp_iconst (v := 0) dX2_downBehindDrawn_38 (by decide) ?_
    refine wp_aaldO (q := 88) hR 0 (rfl) (rfl) (by decide) ((show 0 < 5 from by decide)) (rfl) dX2_downBehindDrawn_39 ?_
    obtain ⟨n, hn, hn2⟩ := dn_draw (x := x) hw hd
    refine wp_callP (e := manyP ((drawP B S x).2.2 2)) (mm_siteV (av := []) hC lX2_52 (rfl) (by decide) ⟨_, rfl, rfl⟩ rfl rfl (Nat.le_of_ble_eq_true rfl) dX2_downBehindDrawn_40) (c_X7_howManyDown l (k + 10) _ _ _ _ _ n (drawP B S x) rfl hS hn hn2) (by omega) (by decide) ?_
    exact wp_iret hC rfl rfl dX2_downBehindDrawn_43 (pI_ok ⟨rfl, hS, hf, rfl, rfl⟩)
  · rw [ite01, Classical.not_not] at c1
    have ht := c1
    refine wp_aload_n dX2_downBehindDrawn_13 rfl 0 rfl ?_
    refine wp_getO (q := 87) fX2_13 hR rfl (rfl) (by decide) (by decide) rfl dX2_downBehindDrawn_14 ?_
    refine wp_iconst (v := 0) dX2_downBehindDrawn_17 (by decide) ?_
    refine wp_aaldO (q := 88) hR 0 (rfl) (rfl) (by decide) ((show 0 < 5 from by decide)) (rfl) dX2_downBehindDrawn_18 ?_
    refine wp_aload_n dX2_downBehindDrawn_19 rfl 1 rfl ?_
    refine wp_iload_n dX2_downBehindDrawn_20 rfl 3 rfl ?_
    refine wp_iload_n dX2_downBehindDrawn_21 rfl 2 rfl ?_
    refine wp_bipush (v := 24) dX2_downBehindDrawn_22 (by decide) ?_
    refine wp_irem dX2_downBehindDrawn_24 (by decide) ?_
    refine wp_top (x' := nI (x % 24)) (ix_rem (a := x) (b := 24) rfl rfl (by omega) (by decide) (by decide)) ?_
    refine wp_iconst (v := 3) dX2_downBehindDrawn_25 (by decide) ?_
    refine wp_idiv dX2_downBehindDrawn_26 (by decide) ?_
    refine wp_top (x' := nI (x % 24 / 3)) (ix_div (a := x % 24) (b := 3) rfl rfl (by omega) (by decide) (by decide)) ?_
    refine wp_iload_n dX2_downBehindDrawn_27 rfl 2 rfl ?_
    refine wp_iconst (v := 3) dX2_downBehindDrawn_28 (by decide) ?_
    refine wp_irem dX2_downBehindDrawn_29 (by decide) ?_
    refine wp_top (x' := nI (x % 3)) (ix_rem (a := x) (b := 3) rfl rfl (by omega) (by decide) (by decide)) ?_
    refine wp_callI (mm_siteV (av := [.ref b, .int (nI (x / 24)), .int (nI (x % 24 / 3)), .int (nI (x % 3))]) hC lX2_43 (rfl) (by decide) ⟨_, rfl, rfl⟩ rfl rfl (Nat.le_of_ble_eq_true rfl) dX2_downBehindDrawn_30) (c_X7_throwBy l k _ _ _ _ _ _ (x / 24) (nI (x % 24 / 3)) (nI (x % 3)) S B hR rfl hb hS hB hw ht) (by omega) (by decide) ?_
    rintro _ F4 A4 _ _ ⟨rfl, hS, hg4, rfl, rfl⟩
    have hf := hg4
    have hdr : drawP B S x = (throwP B S (x / 24) (nI (x % 24 / 3)) (nI (x % 3))).1 := by unfold drawP; rw [if_pos ht]
    rw [← hdr] at hS
    refine wp_pop dX2_downBehindDrawn_33 rfl ?_
    refine wp_aload_n dX2_downBehindDrawn_34 rfl 0 rfl ?_
    refine wp_getO (q := 87) fX2_13 hR rfl (rfl) (by decide) (by decide) rfl dX2_downBehindDrawn_35 ?_
    refine wp_iconst (v := 0) dX2_downBehindDrawn_38 (by decide) ?_
    refine wp_aaldO (q := 88) hR 0 (rfl) (rfl) (by decide) ((show 0 < 5 from by decide)) (rfl) dX2_downBehindDrawn_39 ?_
    obtain ⟨n, hn, hn2⟩ := dn_draw (x := x) hw hd
    refine wp_callP (e := manyP ((drawP B S x).2.2 2)) (mm_siteV (av := []) hC lX2_52 (rfl) (by decide) ⟨_, rfl, rfl⟩ rfl rfl (Nat.le_of_ble_eq_true rfl) dX2_downBehindDrawn_40) (c_X7_howManyDown l (k + 10) _ _ _ _ _ n (drawP B S x) rfl hS hn hn2) (by omega) (by decide) ?_
    exact wp_iret hC rfl rfl dX2_downBehindDrawn_43 (pI_ok ⟨rfl, hS, hf, rfl, rfl⟩)

