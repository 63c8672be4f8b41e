theorem RepM.fair {F A F1 A1 : mmF} {R : mmR} {G : mmG} {Q : QV} (h : RepM F A R G Q) {B : BV} {S : SV} (h0 : ∀ r, r ≠ 123 → F1 r = F r) (hA0 : ∀ r, r < 123 → A1 r = A r) (h2 : F1 123 2 = F 123 2) (h25 : F1 123 25 = F 123 25) (hA : A1 124 = A 124 ∧ A1 137 = A 137 ∧ A1 138 = A 138 ∧ A1 139 = A 139) (hM : isM F1 A1 4 125 B) (hP : isP A1 131 S) (h22 : F1 123 22 = 0) (h136 : A1 136 0 = 0 ∧ A1 136 1 = 0) : RepM F1 A1 R G (Q.1, B, S, [], qE Q, fun _ => none, qG Q) ∧ frY F A R G F1 A1 R G := by
  obtain ⟨hR, ⟨hn, ht⟩, hM0, hP0, ⟨ha, hac⟩, ⟨he, hes⟩, hk, hg⟩ := h
  refine ⟨⟨hR, ⟨h2.trans hn, by rw [hA.1]; exact ht⟩, hM, hP, ⟨h22, fun i S hi => absurd (show ([] : List SV)[i]? = some S from hi) (by simp)⟩, ⟨h25.trans he, by rw [hA.2.1, hA.2.2.1, hA.2.2.2]; exact hes⟩, fun j hj => ⟨?_, fun S hS => absurd (show (none : Option SV) = some S from hS) (by simp)⟩, hg⟩, fun r hr => ⟨h0 r (by omega), hA0 r hr, rfl, rfl⟩⟩
  rcases (show j = 0 ∨ j = 1 by omega) with rfl | rfl
  · exact h136.1
  · exact h136.2
def nailF (B : BV) (a : Int32) (h : Nat) : Int32 := if h < B.1.1 then (if B.2 3 h = 1 then a ||| sh h else a) else a
theorem nailP_F (B : BV) : nailP B = (List.range' 0 5).foldl (nailF B) 0 := rfl
theorem nail_rest {B : BV} : ∀ m i q, B.1.1 ≤ i → (List.range' i m).foldl (nailF B) q = q
  | 0, i, q, _ => rfl
  | m + 1, i, q, h => by
    rw [List.range'_succ, List.foldl_cons, show nailF B q i = q from by unfold nailF; rw [if_neg (by omega)]]
    exact nail_rest m (i + 1) q (by omega)
set_option maxRecDepth 100000 in
set_option maxHeartbeats 600000 in
theorem c_X10_fair (l : Launch) (k : Nat) (F A : mmF) (R : mmR) (G : mmG)  (Q : QV) (hX : RepM F A R G Q) (hwf : wfQ Q) : Meets l hX10_fair (k + 5) 144 144 [.ref 123] F A R G (pI (fun v F1 A1 R1 G1 => v = (wFair Q).2 ∧ RepM F1 A1 R1 G1 (wFair Q).1 ∧ frY F A R G F1 A1 R1 G1)) := by
  refine mm_start rfl (Nat.le_of_ble_eq_true rfl) (fun X hC => ?_)
  show WP hX10_fair X 144 0 [(0, .ref 123)] [] F A R G
  obtain ⟨hw60, hw, hwS, hwA, hwE, hwK⟩ := id hwf
  have hw1 := hw.1
  refine wp_aload_n dX10_fair_0 rfl 0 rfl ?_
  refine wp_iconst (v := 0) dX10_fair_1 (by decide) ?_
  refine wp_putI fX10_71 fn_10_0 rfl (rfl) (by decide) dX10_fair_2 ?_
  obtain ⟨F0, hF0⟩ : ∃ z, z = u2 F 123 0 0 := ⟨_, rfl⟩
  rw [← hF0]
  have hs0 : scN F A F0 A := by rw [hF0]; exact scN.F (by decide)
  obtain ⟨hX0, hy0⟩ := hX.scr hs0
  obtain ⟨hR, ⟨hn, ht⟩, hM, hP, ⟨ha, hac⟩, ⟨he, hes⟩, hk, hg⟩ := id hX0
  refine wp_aload_n dX10_fair_5 rfl 0 rfl ?_
  refine wp_callI (mm_siteV (av := []) hC lX10_131 (rfl) (by decide) ⟨_, rfl, rfl⟩ rfl rfl (Nat.le_of_ble_eq_true rfl) dX10_fair_6) (c_X10_readFair l k _ _ _ _ Q.1.1 Q.1.2 hR hw60 hn ht) (by omega) (by decide) ?_
  rintro _ F1 A1 _ _ ⟨rfl, hs1, hrd, rfl, rfl⟩
  refine wp_bipush (v := (-9)) dX10_fair_9 (by decide) ?_
  refine wp_icmp_eq 17 dX10_fair_11 (by decide) (fun c1 => ?_) (fun c1 => ?_)
  · obtain ⟨hMr, h10, h11⟩ := hrd c1
    have hwd := wfB_read Q.1.2 Q.1.1
    have hwd1 := hwd.1
    refine wp_aload_n dX10_fair_17 rfl 0 rfl ?_
    refine wp_aload_n dX10_fair_18 rfl 0 rfl ?_
    refine wp_getI fX10_95 rfl (rfl) (by decide) dX10_fair_19 ?_
    refine wp_top (x' := nI (readP Q.1.2 Q.1.1).1.1.1) (hMr.1) ?_
    refine wp_putI fX10_75 fn_10_4 rfl (rfl) (by decide) dX10_fair_22 ?_
    refine wp_aload_n dX10_fair_25 rfl 0 rfl ?_
    refine wp_aload_n dX10_fair_26 rfl 0 rfl ?_
    refine wp_getI fX10_106 rfl (rfl) (by decide) dX10_fair_27 ?_
    refine wp_top (x' := nI (readP Q.1.2 Q.1.1).1.1.2.1) (by simp [u2, va_up]; exact hMr.2.1) ?_
    refine wp_putI fX10_82 fn_10_6 rfl (rfl) (by decide) dX10_fair_30 ?_
    refine wp_aload_n dX10_fair_33 rfl 0 rfl ?_
    refine wp_aload_n dX10_fair_34 rfl 0 rfl ?_
    refine wp_getI fX10_109 rfl (rfl) (by decide) dX10_fair_35 ?_
    refine wp_top (x' := nI (readP Q.1.2 Q.1.1).1.1.2.2) (by simp [u2, va_up]; exact hMr.2.2.1) ?_
    refine wp_putI fX10_134 fn_10_8 rfl (rfl) (by decide) dX10_fair_38 ?_
    obtain ⟨F2, hF2⟩ : ∃ z, z = u2 (u2 (u2 F1 123 4 (nI (readP Q.1.2 Q.1.1).1.1.1)) 123 6 (nI (readP Q.1.2 Q.1.1).1.1.2.1)) 123 8 (nI (readP Q.1.2 Q.1.1).1.1.2.2) := ⟨_, rfl⟩
    rw [← hF2]
    have hF2k : ∀ j, j ≠ 4 → j ≠ 6 → j ≠ 8 → F2 123 j = F1 123 j := by rw [hF2]; intro j a b c; simp [u2, va_up, a, b, c]
    have hF2r : ∀ r, r ≠ 123 → F2 r = F1 r := by rw [hF2]; intro r hr; simp [u2, va_up, hr]
    have hF24 : F2 123 4 = nI (readP Q.1.2 Q.1.1).1.1.1 ∧ F2 123 6 = nI (readP Q.1.2 Q.1.1).1.1.2.1 ∧ F2 123 8 = nI (readP Q.1.2 Q.1.1).1.1.2.2 := by rw [hF2]; exact ⟨by simp [u2, va_up], by simp [u2, va_up], by simp [u2, va_up]⟩
    refine wp_aload_n dX10_fair_41 rfl 0 rfl ?_
    refine wp_getO (q := 128) fX10_22 hR rfl (rfl) (by decide) (by decide) rfl dX10_fair_42 ?_
    refine wp_aload_n dX10_fair_45 rfl 0 rfl ?_
    refine wp_getO (q := 125) fX10_13 hR rfl (rfl) (by decide) (by decide) rfl dX10_fair_46 ?_
    refine wp_bipush (v := 15) dX10_fair_49 (by decide) ?_
    refine wp_callV (mm_siteS (av := [.ref 128, .ref 125, .int 15]) hC lX10_137 rfl rfl (Nat.le_of_ble_eq_true rfl) dX10_fair_51) (c_X10_copyRow l (k + 4) _ _ _ _ 128 125 15 rfl (by decide) (by decide) rfl (by decide) (by decide) (by decide) (by decide)) (by omega) (by decide) (by decide) ?_
    rintro F2 A3 _ _ ⟨rfl, hc3, hr3, rfl, rfl⟩
    refine wp_aload_n dX10_fair_54 rfl 0 rfl ?_
    refine wp_getO (q := 129) fX10_25 hR rfl (rfl) (by decide) (by decide) rfl dX10_fair_55 ?_
    refine wp_aload_n dX10_fair_58 rfl 0 rfl ?_
    refine wp_getO (q := 126) fX10_16 hR rfl (rfl) (by decide) (by decide) rfl dX10_fair_59 ?_
    refine wp_bipush (v := 12) dX10_fair_62 (by decide) ?_
    refine wp_callV (mm_siteS (av := [.ref 129, .ref 126, .int 12]) hC lX10_137 rfl rfl (Nat.le_of_ble_eq_true rfl) dX10_fair_64) (c_X10_copyRow l (k + 4) _ _ _ _ 129 126 12 rfl (by decide) (by decide) rfl (by decide) (by decide) (by decide) (by decide)) (by omega) (by decide) (by decide) ?_
    rintro F2 A4 _ _ ⟨rfl, hc4, hr4, rfl, rfl⟩
    refine wp_aload_n dX10_fair_67 rfl 0 rfl ?_
    refine wp_getO (q := 130) fX10_28 hR rfl (rfl) (by decide) (by decide) rfl dX10_fair_68 ?_
    refine wp_aload_n dX10_fair_71 rfl 0 rfl ?_
    refine wp_getO (q := 127) fX10_19 hR rfl (rfl) (by decide) (by decide) rfl dX10_fair_72 ?_
    refine wp_bipush (v := 12) dX10_fair_75 (by decide) ?_
    refine wp_callV (mm_siteS (av := [.ref 130, .ref 127, .int 12]) hC lX10_137 rfl rfl (Nat.le_of_ble_eq_true rfl) dX10_fair_77) (c_X10_copyRow l (k + 4) _ _ _ _ 130 127 12 rfl (by decide) (by decide) rfl (by decide) (by decide) (by decide) (by decide)) (by omega) (by decide) (by decide) ?_
    rintro F2 A5 _ _ ⟨rfl, hc5, hr5, rfl, rfl⟩
    have hM5 : isM F2 A5 4 125 (readP Q.1.2 Q.1.1).1 := ⟨hF24.1, hF24.2.1, hF24.2.2, fun h hh m hm => by rw [hr5 125 (by decide), hr4 125 (by decide), hc3 _ (by omega)]; exact hMr.2.2.2.1 h hh m hm, fun h hh m hm => by rw [hr5 126 (by decide), hc4 _ (by omega), hr3 129 (by decide)]; exact hMr.2.2.2.2.1 h hh m hm, fun h hh m hm => by rw [hc5 _ (by omega), hr4 130 (by decide), hr3 130 (by decide)]; exact hMr.2.2.2.2.2 h hh m hm⟩
    refine wp_iconst (v := 0) dX10_fair_80 (by decide) ?_
    refine wp_istore_n [1, 0] (by decide) rfl rfl rfl dX10_fair_81 rfl ?_
    have lp : ∀ (nn : Nat) (i : Nat) (A6 : mmF), (i ≤ 15) → (∀ k, k < i → A6 131 k = 0) → (∀ r, r ≠ 131 → A6 r = A5 r) → 15 - i < nn → WP hX10_fair X 144 82 [(0, .ref 123), (1, .int (nI i))] [] F2 A6 R G := by
      intro nn
      induction nn with
      | zero => intro i A6 _ _ _ hm; exact absurd hm (Nat.not_lt_zero _)
      | succ nn ih_lp =>
        intro i A6 hi hz hr6 hm_lp
        refine wp_iload_n dX10_fair_82 rfl 1 rfl ?_
        refine wp_bipush (v := 15) dX10_fair_83 (by decide) ?_
        refine wp_icmp_ge 101 dX10_fair_85 (by decide) (fun c2 => ?_) (fun c2 => ?_)
        · replace c2 := (ix_le (a := 15) (b := i) (rfl) (rfl) (by omega) (by omega)).mp c2
          refine wp_iconst (v := 0) dX10_fair_101 (by decide) ?_
          refine wp_istore_n [1, 0] (by decide) rfl rfl rfl dX10_fair_102 rfl ?_
          have lp : ∀ (nn : Nat) (i : Nat) (q : Int32) (A7 : mmF), (i ≤ (readP Q.1.2 Q.1.1).1.1.1) → (A7 131 11 = q) → (∀ k, k < 15 → k ≠ 11 → A7 131 k = 0) → (∀ r, r ≠ 131 → A7 r = A5 r) → (nailP (readP Q.1.2 Q.1.1).1 = (List.range' i (5 - i)).foldl (nailF (readP Q.1.2 Q.1.1).1) q) → (readP Q.1.2 Q.1.1).1.1.1 - i < nn → WP hX10_fair X 144 103 [(0, .ref 123), (1, .int (nI i))] [] F2 A7 R G := by
            intro nn
            induction nn with
            | zero => intro i q A7 _ _ _ _ _ hm; exact absurd hm (Nat.not_lt_zero _)
            | succ nn ih_lp =>
              intro i q A7 hi hq11 hz7 hr7 hv hm_lp
              refine wp_iload_n dX10_fair_103 rfl 1 rfl ?_
              refine wp_aload_n dX10_fair_104 rfl 0 rfl ?_
              refine wp_getI fX10_75 rfl (rfl) (by decide) dX10_fair_105 ?_
              refine wp_top (x' := nI (readP Q.1.2 Q.1.1).1.1.1) (hF24.1) ?_
              refine wp_icmp_ge 148 dX10_fair_108 (by decide) (fun c3 => ?_) (fun c3 => ?_)
              · replace c3 := (ix_le (a := (readP Q.1.2 Q.1.1).1.1.1) (b := i) (rfl) (rfl) (by omega) (by omega)).mp c3
                refine wp_aload_n dX10_fair_148 rfl 0 rfl ?_
                refine wp_getO (q := 131) fX10_31 hR rfl (rfl) (by decide) (by decide) rfl dX10_fair_149 ?_
                refine wp_bipush (v := 13) dX10_fair_152 (by decide) ?_
                refine wp_aload_n dX10_fair_154 rfl 0 rfl ?_
                refine wp_getI fX10_122 rfl (rfl) (by decide) dX10_fair_155 ?_
                refine wp_top (x' := figP Q.1.2 Q.1.1 1 0 2) ((hF2k 10 (by decide) (by decide) (by decide)).trans h10) ?_
                refine wp_iast 13 (rfl) (rfl) (by decide) ((show 13 < 15 from by omega)) dX10_fair_158 ?_
                refine wp_aload_n dX10_fair_159 rfl 0 rfl ?_
                refine wp_getO (q := 131) fX10_31 hR rfl (rfl) (by decide) (by decide) rfl dX10_fair_160 ?_
                refine wp_bipush (v := 14) dX10_fair_163 (by decide) ?_
                refine wp_aload_n dX10_fair_165 rfl 0 rfl ?_
                refine wp_getI fX10_125 rfl (rfl) (by decide) dX10_fair_166 ?_
                refine wp_top (x' := figP Q.1.2 Q.1.1 2 0 9) ((hF2k 11 (by decide) (by decide) (by decide)).trans h11) ?_
                refine wp_iast 14 (rfl) (rfl) (by decide) ((show 14 < 15 from by omega)) dX10_fair_169 ?_
                refine wp_aload_n dX10_fair_170 rfl 0 rfl ?_
                refine wp_iconst (v := 0) dX10_fair_171 (by decide) ?_
                refine wp_putI fX10_141 fn_10_22 rfl (rfl) (by decide) dX10_fair_172 ?_
                refine wp_aload_n dX10_fair_175 rfl 0 rfl ?_
                refine wp_getO (q := 136) fX10_46 hR rfl (rfl) (by decide) (by decide) rfl dX10_fair_176 ?_
                refine wp_iconst (v := 0) dX10_fair_179 (by decide) ?_
                refine wp_iconst (v := 0) dX10_fair_180 (by decide) ?_
                refine wp_zast 0 (rfl) rfl (rfl) (by decide) ((show 0 < 2 from by omega)) dX10_fair_181 ?_
                refine wp_aload_n dX10_fair_182 rfl 0 rfl ?_
                refine wp_getO (q := 136) fX10_46 hR rfl (rfl) (by decide) (by decide) rfl dX10_fair_183 ?_
                refine wp_iconst (v := 1) dX10_fair_186 (by decide) ?_
                refine wp_iconst (v := 0) dX10_fair_187 (by decide) ?_
                refine wp_zast 1 (rfl) rfl (rfl) (by decide) ((show 1 < 2 from by omega)) dX10_fair_188 ?_
                refine wp_bipush (v := 100) dX10_fair_189 (by decide) ?_
                refine wp_aload_n dX10_fair_191 rfl 0 rfl ?_
                refine wp_getI fX10_75 rfl (rfl) (by decide) dX10_fair_192 ?_
                refine wp_top (x' := nI (readP Q.1.2 Q.1.1).1.1.1) (by simp [u2, va_up]; exact hF24.1) ?_
                refine wp_imul dX10_fair_195 ?_
                refine wp_bipush (v := 10) dX10_fair_196 (by decide) ?_
                refine wp_aload_n dX10_fair_198 rfl 0 rfl ?_
                refine wp_getI fX10_82 rfl (rfl) (by decide) dX10_fair_199 ?_
                refine wp_top (x' := nI (readP Q.1.2 Q.1.1).1.1.2.1) (by simp [u2, va_up]; exact hF24.2.1) ?_
                refine wp_imul dX10_fair_202 ?_
                refine wp_iadd dX10_fair_203 ?_
                refine wp_aload_n dX10_fair_204 rfl 0 rfl ?_
                refine wp_getI fX10_134 rfl (rfl) (by decide) dX10_fair_205 ?_
                refine wp_top (x' := nI (readP Q.1.2 Q.1.1).1.1.2.2) (by simp [u2, va_up]; exact hF24.2.2) ?_
                refine wp_iadd dX10_fair_208 ?_
                exact wp_iret hC rfl rfl dX10_fair_209 (pI_ok (by
    unfold wFair; rw [if_pos c1]
    obtain ⟨hX1, hy1⟩ := hX0.fair (F1 := u2 F2 123 22 0) (A1 := u2 (u2 (u2 (u2 A7 131 13 (figP Q.1.2 Q.1.1 1 0 2)) 131 14 (figP Q.1.2 Q.1.1 2 0 9)) 136 0 0) 136 1 0) (B := (readP Q.1.2 Q.1.1).1) (S := newS (readP Q.1.2 Q.1.1).1 (figP Q.1.2 Q.1.1 1 0 2) (figP Q.1.2 Q.1.1 2 0 9))
      (fun r hr => by rw [u2_ne hr, hF2r r hr]; exact hs1.1 r hr)
      (fun r hr => by rw [u2_ne (by omega), u2_ne (by omega), u2_ne (by omega), u2_ne (by omega), hr7 r (by omega), hr5 r (by omega), hr4 r (by omega), hr3 r (by omega)]; exact hs1.2.2 r (by omega) (by omega) (by omega) (by omega))
      (by rw [u2_row, va_up_ne _ _ (by decide), hF2k 2 (by decide) (by decide) (by decide)]; exact hs1.2.1 2 (by decide) (by decide))
      (by rw [u2_row, va_up_ne _ _ (by decide), hF2k 25 (by decide) (by decide) (by decide)]; exact hs1.2.1 25 (by decide) (by decide))
      ⟨by rw [u2_ne (by decide), u2_ne (by decide), u2_ne (by decide), u2_ne (by decide), hr7 _ (by decide), hr5 _ (by decide), hr4 _ (by decide), hr3 _ (by decide)]; exact hs1.2.2 _ (by decide) (by decide) (by decide) (by decide), by rw [u2_ne (by decide), u2_ne (by decide), u2_ne (by decide), u2_ne (by decide), hr7 _ (by decide), hr5 _ (by decide), hr4 _ (by decide), hr3 _ (by decide)]; exact hs1.2.2 _ (by decide) (by decide) (by decide) (by decide), by rw [u2_ne (by decide), u2_ne (by decide), u2_ne (by decide), u2_ne (by decide), hr7 _ (by decide), hr5 _ (by decide), hr4 _ (by decide), hr3 _ (by decide)]; exact hs1.2.2 _ (by decide) (by decide) (by decide) (by decide), by rw [u2_ne (by decide), u2_ne (by decide), u2_ne (by decide), u2_ne (by decide), hr7 _ (by decide), hr5 _ (by decide), hr4 _ (by decide), hr3 _ (by decide)]; exact hs1.2.2 _ (by decide) (by decide) (by decide) (by decide)⟩
      (isM_c hM5 ⟨by simp [u2, va_up], by simp [u2, va_up], by simp [u2, va_up]⟩ ⟨by rw [u2_ne (by decide), u2_ne (by decide), u2_ne (by decide), u2_ne (by decide), hr7 _ (by decide)], by rw [u2_ne (by decide), u2_ne (by decide), u2_ne (by decide), u2_ne (by decide), hr7 _ (by decide)], by rw [u2_ne (by decide), u2_ne (by decide), u2_ne (by decide), u2_ne (by decide), hr7 _ (by decide)]⟩)
      (by
        have hnl : A7 131 11 = nailP (readP Q.1.2 Q.1.1).1 := by rw [hq11, hv, nail_rest _ _ _ (by omega)]
        have hz8 := fun k hk hne => hz7 k hk hne
        intro k hk
        rw [u2_ne (by decide), u2_ne (by decide)]
        revert k
        apply k15
        simp [u2, va_up, pgS, newS, hnl, hz8])
      (by rw [u2_row]; exact va_up_self _ _ _)
      ⟨by simp [u2, va_up], by simp [u2, va_up]⟩
    exact ⟨rfl, hX1, hy0.trans hy1⟩))
              · replace c3 := mt (ix_le (a := (readP Q.1.2 Q.1.1).1.1.1) (b := i) (rfl) (rfl) (by omega) (by omega)).mpr c3
                refine wp_aload_n dX10_fair_111 rfl 0 rfl ?_
                refine wp_getO (q := 131) fX10_31 hR rfl (rfl) (by decide) (by decide) rfl dX10_fair_112 ?_
                refine wp_bipush (v := 11) dX10_fair_115 (by decide) ?_
                refine wp_dup2 dX10_fair_117 rfl rfl ?_
                refine wp_iald 11 (rfl) (rfl) (by decide) ((show 11 < 15 from by omega)) dX10_fair_118 ?_
                refine wp_top (x' := q) (hq11) ?_
                refine wp_aload_n dX10_fair_119 rfl 0 rfl ?_
                refine wp_getO (q := 125) fX10_13 hR rfl (rfl) (by decide) (by decide) rfl dX10_fair_120 ?_
                refine wp_iconst (v := 3) dX10_fair_123 (by decide) ?_
                refine wp_iload_n dX10_fair_124 rfl 1 rfl ?_
                refine wp_imul dX10_fair_125 ?_
                refine wp_iconst (v := 2) dX10_fair_126 (by decide) ?_
                refine wp_iadd dX10_fair_127 ?_
                refine wp_iald ((3 * i) + 2) (ix_add (ix_mul rfl rfl) rfl) (rfl) (by decide) ((show (3 * i) + 2 < 15 from by omega)) dX10_fair_128 ?_
                refine wp_top (x' := (readP Q.1.2 Q.1.1).1.2 3 i) (by rw [hr7 125 (by decide)]; exact hM5.2.2.2.1 i (by omega) 2 (by decide)) ?_
                refine wp_iconst (v := 1) dX10_fair_129 (by decide) ?_
                refine wp_icmp_ne 139 dX10_fair_130 (by decide) (fun c4 => ?_) (fun c4 => ?_)
                · refine wp_iconst (v := 0) dX10_fair_139 (by decide) ?_
                  refine wp_ior dX10_fair_140 ?_
                  refine wp_iast 11 (rfl) (rfl) (by decide) ((show 11 < 15 from by omega)) dX10_fair_141 ?_
                  refine wp_iinc (v := nI (i + 1)) 1 rfl (by exact nI_1 i) [1, 0] (by decide) rfl rfl rfl dX10_fair_142 ?_
                  refine wp_goto 103 dX10_fair_145 (by decide) ?_
                  exact ih_lp (i + 1) (q ||| 0) _ (by omega) (by rw [u2_row]; exact va_up_self _ _ _) (fun k hk hne => by rw [u2_row, va_up_ne _ _ hne]; exact hz7 k hk hne) (fun r h => by rw [u2_ne h]; exact hr7 r h) (by rw [hv, foldl_go (by omega), nailF, if_pos (show i < (readP Q.1.2 Q.1.1).1.1.1 by omega)]; rw [if_neg c4, Int32.or_zero]) (by omega)
                · refine wp_iconst (v := 1) dX10_fair_133 (by decide) ?_
                  refine wp_iload_n dX10_fair_134 rfl 1 rfl ?_
                  refine wp_ishl dX10_fair_135 ?_
                  refine wp_goto 140 dX10_fair_136 (by decide) ?_
                  refine wp_ior dX10_fair_140 ?_
                  refine wp_iast 11 (rfl) (rfl) (by decide) ((show 11 < 15 from by omega)) dX10_fair_141 ?_
                  refine wp_iinc (v := nI (i + 1)) 1 rfl (by exact nI_1 i) [1, 0] (by decide) rfl rfl rfl dX10_fair_142 ?_
                  refine wp_goto 103 dX10_fair_145 (by decide) ?_
                  exact ih_lp (i + 1) (q ||| (1 : Int32) <<< (nI i &&& 31)) _ (by omega) (by rw [u2_row]; exact va_up_self _ _ _) (fun k hk hne => by rw [u2_row, va_up_ne _ _ hne]; exact hz7 k hk hne) (fun r h => by rw [u2_ne h]; exact hr7 r h) (by rw [hv, foldl_go (by omega), nailF, if_pos (show i < (readP Q.1.2 Q.1.1).1.1.1 by omega)]; rw [if_pos c4]; rfl) (by omega)
          exact lp ((readP Q.1.2 Q.1.1).1.1.1 + 1) 0 0 A6 (Nat.zero_le _) (hz 11 (by omega)) (fun k hk _ => hz k (by omega)) hr6 rfl (by omega)
        · replace c2 := mt (ix_le (a := 15) (b := i) (rfl) (rfl) (by omega) (by omega)).mpr c2
          refine wp_aload_n dX10_fair_88 rfl 0 rfl ?_
          refine wp_getO (q := 131) fX10_31 hR rfl (rfl) (by decide) (by decide) rfl dX10_fair_89 ?_
          refine wp_iload_n dX10_fair_92 rfl 1 rfl ?_
          refine wp_iconst (v := 0) dX10_fair_93 (by decide) ?_
          refine wp_iast i (rfl) (rfl) (by decide) ((show i < 15 from by omega)) dX10_fair_94 ?_
          refine wp_iinc (v := nI (i + 1)) 1 rfl (by exact nI_1 i) [1, 0] (by decide) rfl rfl rfl dX10_fair_95 ?_
          refine wp_goto 82 dX10_fair_98 (by decide) ?_
          exact ih_lp (i + 1) _ (by omega) (fun k hk => by rw [u2_row]; by_cases e : k = i; (rw [e, va_up_self]); (rw [va_up_ne _ _ e]; exact hz k (by omega))) (fun r h => by rw [u2_ne h]; exact hr6 r h) (by omega)
    exact lp (15 + 1) 0 A5 (by decide) (fun _ h => absurd h (Nat.not_lt_zero _)) (fun _ _ => rfl) (by omega)
  · refine wp_bipush (v := (-3)) dX10_fair_14 (by decide) ?_
    exact wp_iret hC rfl rfl dX10_fair_16 (pI_ok (by unfold wFair; rw [if_neg c1]; obtain ⟨hX1, hy1⟩ := hX0.scr hs1; exact ⟨rfl, hX1, hy0.trans hy1⟩))

