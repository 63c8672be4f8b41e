/-- only what fell, the fields e and g, the trial and its heap, and the row x have changed -/
def frG (e g x : Nat) (F A F1 A1 : mmF) : Prop := (∀ r, r ≠ 123 → F1 r = F r) ∧ (∀ j, j ≠ 30 → j ≠ e → j ≠ g → F1 123 j = F 123 j) ∧ ∀ r, r ≠ 132 → r ≠ 140 → r ≠ 141 → r ≠ x → A1 r = A r
theorem frG.refl (e g x : Nat) (F A : mmF) : frG e g x F A F A := ⟨fun _ _ => rfl, fun _ _ _ _ => rfl, fun _ _ _ _ _ => rfl⟩
theorem frG.trans {e g x : Nat} {F A F1 A1 F2 A2 : mmF} (h : frG e g x F A F1 A1) (h2 : frG e g x F1 A1 F2 A2) : frG e g x F A F2 A2 := ⟨fun r hr => (h2.1 r hr).trans (h.1 r hr), fun j a b c => (h2.2.1 j a b c).trans (h.2.1 j a b c), fun r a b c d => (h2.2.2 r a b c d).trans (h.2.2 r a b c d)⟩
theorem frP.G (e g x : Nat) {F A F1 A1 : mmF} (h : frP 132 F A F1 A1) : frG e g x F A F1 A1 := ⟨h.1, fun j a _ _ => h.2.1 j a, fun r a b c _ => h.2.2 r a b c⟩
theorem frG.F {e g x j : Nat} {F A : mmF} {v : Int32} (hj : j = e ∨ j = g) : frG e g x F A (u2 F 123 j v) A := ⟨fun r hr => u2_ne hr, fun i a b c => by rw [u2_row, va_up_ne _ _ (by omega)], fun _ _ _ _ _ => rfl⟩
theorem frG.A {e g x r0 : Nat} {F A A1 : mmF} (h0 : r0 = 132 ∨ r0 = x) (h : ∀ r, r ≠ r0 → A1 r = A r) : frG e g x F A F A1 := ⟨fun _ _ => rfl, fun _ _ _ _ => rfl, fun r a b c d => h r (by omega)⟩
theorem frG.N {e g x : Nat} {F A F1 A1 : mmF} (h : frG e g x F A F1 A1) (he : ¬ (e = 2 ∨ e = 4 ∨ e = 6 ∨ e = 8 ∨ e = 22 ∨ e = 25)) (hg : ¬ (g = 2 ∨ g = 4 ∨ g = 6 ∨ g = 8 ∨ g = 22 ∨ g = 25)) (hx : ¬ (x < 128 ∨ x = 131 ∨ (134 ≤ x ∧ x ≤ 139))) : scN F A F1 A1 := ⟨h.1, fun j h1 _ => h.2.1 j (by omega) (by omega) (by omega), fun r a _ _ _ => h.2.2 r (by omega) (by omega) (by omega) (by omega)⟩
theorem frG.m {e g x : Nat} {F A F1 A1 : mmF} {B : BV} (h : frG e g x F A F1 A1) (he : e ≠ 4 ∧ e ≠ 6 ∧ e ≠ 8) (hg : g ≠ 4 ∧ g ≠ 6 ∧ g ≠ 8) (hx : 128 ≤ x) (hM : isM F A 4 125 B) : isM F1 A1 4 125 B := isM_c hM ⟨h.2.1 4 (by decide) (Ne.symm he.1) (Ne.symm hg.1), h.2.1 6 (by decide) (Ne.symm he.2.1) (Ne.symm hg.2.1), h.2.1 8 (by decide) (Ne.symm he.2.2) (Ne.symm hg.2.2)⟩ ⟨h.2.2 125 (by decide) (by decide) (by decide) (by omega), h.2.2 126 (by decide) (by decide) (by decide) (by omega), h.2.2 127 (by decide) (by decide) (by decide) (by omega)⟩
theorem pow_le {W T k : Nat} (hW : W ≤ 6) (hT : T ≤ 4) (hk : k ≤ T) (h0 : 0 < W) : 0 < W ^ k ∧ W ^ k ≤ 1296 := ⟨Nat.pow_pos h0, Nat.le_trans (Nat.pow_le_pow_left hW k) (Nat.le_trans (Nat.pow_le_pow_right (by decide) (Nat.le_trans hk hT)) (by decide : 6 ^ 4 ≤ 1296))⟩
set_option maxRecDepth 100000 in
set_option maxHeartbeats 600000 in
theorem c_X10_findMatch (l : Launch) (k : Nat) (F A : mmF) (R : mmR) (G : mmG) (am : Int32) (S : SV) (B : BV) (hR : mm_RL R) (hM : isM F A 4 125 B) (hw : wfB B) (hP : isP A 131 S) (hd : dn S) (hkS : ∀ h, h < B.1.1 → bt (S.2.2 3) (nI h) = 0 ∨ B.2 3 h = 3) : Meets l hX10_findMatch (k + 4) 144 144 [.ref 123, .int am] F A R G (pV (fun F1 A1 R1 G1 => (F1 123 35, F1 123 36) = mtP B S am ∧ frG 35 36 132 F A F1 A1 ∧ R = R1 ∧ G = G1)) := by
  refine mm_start rfl (Nat.le_of_ble_eq_true rfl) (fun X hC => ?_)
  show WP hX10_findMatch X 144 0 [(0, .ref 123), (1, .int am)] [] F A R G
  have hw1 := hw.1
  obtain ⟨k0, hk0⟩ : ∃ k0, k0 = k := ⟨_, rfl⟩
  obtain ⟨MM, hMM⟩ : ∃ MM, MM = (B.1.1 + 1) ^ B.1.2.1 := ⟨_, rfl⟩
  have hM6 := (pow_le (W := (B.1.1 + 1)) (T := B.1.2.1) (k := B.1.2.1) (by omega) hw1.2.1 (Nat.le_refl _) (by omega)).2
  rw [← hMM] at hM6
  refine wp_aload_n dX10_findMatch_0 rfl 0 rfl ?_
  refine wp_bipush (v := (-9)) dX10_findMatch_1 (by decide) ?_
  refine wp_putI fX10_222 fn_10_35 rfl (rfl) (by decide) dX10_findMatch_3 ?_
  refine wp_aload_n dX10_findMatch_6 rfl 0 rfl ?_
  refine wp_bipush (v := (-9)) dX10_findMatch_7 (by decide) ?_
  refine wp_putI fX10_225 fn_10_36 rfl (rfl) (by decide) dX10_findMatch_9 ?_
  obtain ⟨F1, hF1⟩ : ∃ z, z = u2 (u2 F 123 35 (-9)) 123 36 (-9) := ⟨_, rfl⟩
  rw [← hF1]
  have hfr : frG 35 36 132 F A F1 A := by rw [hF1]; exact (frG.F (Or.inl rfl)).trans (frG.F (Or.inr rfl))
  have hacc0 : (F1 123 35, F1 123 36) = ((-9 : Int32), (-9 : Int32)) := by rw [hF1]; simp [u2, va_up]
  have hMc := hfr.m (by decide) (by decide) (by decide) hM
  refine wp_aload_n dX10_findMatch_12 rfl 0 rfl ?_
  refine wp_getI fX10_75 rfl (rfl) (by decide) dX10_findMatch_13 ?_
  refine wp_top (x' := nI B.1.1) (hMc.1) ?_
  refine wp_iconst (v := 1) dX10_findMatch_16 (by decide) ?_
  refine wp_iadd dX10_findMatch_17 ?_
  refine wp_top (x' := nI (B.1.1 + 1)) (nI_1 B.1.1) ?_
  refine wp_istore_n [1, 2, 0] (by decide) rfl rfl rfl dX10_findMatch_18 rfl ?_
  refine wp_iconst (v := 0) dX10_findMatch_19 (by decide) ?_
  refine wp_istore_n [1, 2, 3, 0] (by decide) rfl rfl rfl dX10_findMatch_20 rfl ?_
  have lp : ∀ (nn : Nat) (row : Nat) (acc : Int32 × Int32) (F2 A2 : mmF), (row ≤ MM) → (matchP B am B.1.2.1 0 S 1 (-9, -9) = (List.range' row (MM - row)).foldl (fun acc row => evM B am B.1.2.1 0 row S 1 acc) acc) → ((F2 123 35, F2 123 36) = acc) → (frG 35 36 132 F A F2 A2) → MM - row < nn → WP hX10_findMatch X 144 21 [(0, .ref 123), (1, .int am), (2, .int (nI (B.1.1 + 1))), (3, .int (nI row))] [] F2 A2 R G := by
    intro nn
    induction nn with
    | zero => intro row acc F2 A2 _ _ _ _ hm; exact absurd hm (Nat.not_lt_zero _)
    | succ nn ih_lp =>
      intro row acc F2 A2 hrow hv hacc hfr hm_lp
      have hMc := hfr.m (by decide) (by decide) (by decide) hM
      have hPr : isP A2 131 S := isP_c hP (hfr.2.2 131 (by decide) (by decide) (by decide) (by decide))
      refine wp_iload_n dX10_findMatch_21 rfl 3 rfl ?_
      refine wp_iload_n dX10_findMatch_22 rfl 2 rfl ?_
      refine wp_aload_n dX10_findMatch_23 rfl 0 rfl ?_
      refine wp_getI fX10_82 rfl (rfl) (by decide) dX10_findMatch_24 ?_
      refine wp_top (x' := nI B.1.2.1) (hMc.2.1) ?_
      refine wp_callP (e := nI ((B.1.1 + 1) ^ B.1.2.1)) (mm_siteS (av := [.int (nI (B.1.1 + 1)), .int (nI B.1.2.1)]) hC lX10_212 rfl rfl (Nat.le_of_ble_eq_true rfl) dX10_findMatch_27) (c_X10_power l (k0 + 3) _ _ _ _ (B.1.1 + 1) B.1.2.1 (by omega)) (by omega) (by decide) ?_
      refine wp_top (x' := nI MM) (by rw [hMM]) ?_
      refine wp_icmp_ge 186 dX10_findMatch_30 (by decide) (fun c1 => ?_) (fun c1 => ?_)
      · replace c1 := (ix_le (a := MM) (b := row) (rfl) (rfl) (by omega) (by omega)).mp c1
        exact wp_vret hC rfl dX10_findMatch_186 (pV_ok ⟨by rw [hacc, ← mt_start hd, hv, show MM - row = 0 by omega]; rfl, hfr, rfl, rfl⟩)
      · replace c1 := mt (ix_le (a := MM) (b := row) (rfl) (rfl) (by omega) (by omega)).mpr c1
        refine wp_aload_n dX10_findMatch_33 rfl 0 rfl ?_
        refine wp_getO (q := 131) fX10_31 hR rfl (rfl) (by decide) (by decide) rfl dX10_findMatch_34 ?_
        refine wp_aload_n dX10_findMatch_37 rfl 0 rfl ?_
        refine wp_getO (q := 132) fX10_34 hR rfl (rfl) (by decide) (by decide) rfl dX10_findMatch_38 ?_
        refine wp_bipush (v := 15) dX10_findMatch_41 (by decide) ?_
        refine wp_callV (mm_siteS (av := [.ref 131, .ref 132, .int 15]) hC lX10_137 rfl rfl (Nat.le_of_ble_eq_true rfl) dX10_findMatch_43) (c_X10_copyRow l (k0 + 3) _ _ _ _ 131 132 15 rfl (by decide) (by decide) rfl (by decide) (by decide) (by decide) (by decide)) (by omega) (by decide) (by decide) ?_
        rintro F2 A3 _ _ ⟨rfl, hc3, hr3, rfl, rfl⟩
        have hT3 : isP A3 132 S := fun k hk => (hc3 k hk).trans (hPr k hk)
        have hf3 : frG 35 36 132 F A F2 A3 := hfr.trans (frG.A (Or.inl rfl) hr3)
        refine wp_iconst (v := 1) dX10_findMatch_46 (by decide) ?_
        refine wp_istore [1, 2, 3, 4, 0] (by decide) rfl rfl rfl dX10_findMatch_47 ?_
        refine wp_iconst (v := 1) dX10_findMatch_49 (by decide) ?_
        refine wp_istore [1, 2, 3, 4, 5, 0] (by decide) rfl rfl rfl dX10_findMatch_50 ?_
        refine wp_iconst (v := 0) dX10_findMatch_52 (by decide) ?_
        refine wp_istore [1, 2, 3, 4, 5, 6, 0] (by decide) rfl rfl rfl dX10_findMatch_53 ?_
        have lq : ∀ (mm : Nat) (t : Nat) (s fg : Int32) (T : SV) (F4 A4 : mmF), (t ≤ B.1.2.1) → ((s = 1 ∧ evM B am B.1.2.1 0 row S 1 acc = evM B am (B.1.2.1 - t) t row T fg acc) ∨ (s = 0 ∧ evM B am B.1.2.1 0 row S 1 acc = acc)) → (isP A4 132 T) → (dn T) → (∀ h, h < B.1.1 → bt (T.2.2 3) (nI h) = 0 ∨ B.2 3 h = 3) → (frG 35 36 132 F A F4 A4) → ((F4 123 35, F4 123 36) = acc) → B.1.2.1 - t < mm → WP hX10_findMatch X 144 55 [(0, .ref 123), (1, .int am), (2, .int (nI (B.1.1 + 1))), (3, .int (nI row)), (4, .int fg), (5, .int s), (6, .int (nI t))] [] F4 A4 R G := by
          intro mm
          induction mm with
          | zero => intro t s fg T F4 A4 _ _ _ _ _ _ _ hm; exact absurd hm (Nat.not_lt_zero _)
          | succ mm ih_lq =>
            intro t s fg T F4 A4 ht hev hT hdT hkT hf4 hacc4 hm_lq
            have hMc := hf4.m (by decide) (by decide) (by decide) hM
            refine wp_iload dX10_findMatch_55 6 rfl ?_
            refine wp_aload_n dX10_findMatch_57 rfl 0 rfl ?_
            refine wp_getI fX10_82 rfl (rfl) (by decide) dX10_findMatch_58 ?_
            refine wp_top (x' := nI B.1.2.1) (hMc.2.1) ?_
            refine wp_icmp_ge 138 dX10_findMatch_61 (by decide) (fun c2 => ?_) (fun c2 => ?_)
            · replace c2 := (ix_le (a := B.1.2.1) (b := t) (rfl) (rfl) (by omega) (by omega)).mp c2
              refine wp_iload dX10_findMatch_138 5 rfl ?_
              refine wp_if_eq 180 dX10_findMatch_140 (by decide) (fun c3 => ?_) (fun c3 => ?_)
              · refine wp_iinc (v := nI (row + 1)) 3 rfl (by exact nI_1 row) [1, 2, 3, 0, 5, 6, 7] (by decide) rfl rfl rfl dX10_findMatch_180 ?_
                refine wp_goto 21 dX10_findMatch_183 (by decide) ?_
                refine wp_lv [0, 1, 2, 3] rfl ?_
                exact ih_lp (row + 1) acc F4 A4 (by omega) (by rw [hv, foldl_go (by omega), show evM B am B.1.2.1 0 row S 1 acc = acc from by rcases hev with ⟨h1, -⟩ | ⟨-, e⟩; (rw [h1] at c3; exact absurd c3 (by decide)); exact e]) hacc4 hf4 (by omega)
              · obtain ⟨dq, hdq, hdqe⟩ := hdT
                refine wp_aload_n dX10_findMatch_143 rfl 0 rfl ?_
                refine wp_getO (q := 132) fX10_34 hR rfl (rfl) (by decide) (by decide) rfl dX10_findMatch_144 ?_
                refine wp_bipush (v := 12) dX10_findMatch_147 (by decide) ?_
                refine wp_iald 12 (rfl) (rfl) (by decide) ((show 12 < 15 from by omega)) dX10_findMatch_149 ?_
                refine wp_top (x' := nI dq) ((hT 12 (by decide)).trans hdqe) ?_
                refine wp_callP (e := nI (bc dq)) (mm_siteS (av := [.int (nI dq)]) hC lX10_228 rfl rfl (Nat.le_of_ble_eq_true rfl) dX10_findMatch_150) (c_X10_many l (k0 + 3) _ _ _ _ dq hdq) (by omega) (by decide) ?_
                refine wp_aload_n dX10_findMatch_153 rfl 0 rfl ?_
                refine wp_getI fX10_222 rfl (rfl) (by decide) dX10_findMatch_154 ?_
                refine wp_top (x' := acc.1) (congrArg Prod.fst hacc4) ?_
                refine wp_icmp_le 180 dX10_findMatch_157 (by decide) (fun c4 => ?_) (fun c4 => ?_)
                · refine wp_iinc (v := nI (row + 1)) 3 rfl (by exact nI_1 row) [1, 2, 3, 0, 5, 6, 7] (by decide) rfl rfl rfl dX10_findMatch_180 ?_
                  refine wp_goto 21 dX10_findMatch_183 (by decide) ?_
                  refine wp_lv [0, 1, 2, 3] rfl ?_
                  exact ih_lp (row + 1) acc F4 A4 (by omega) (by rw [hv, foldl_go (by omega), show evM B am B.1.2.1 0 row S 1 acc = weighP (manyP (T.2.2 2)) fg acc from by rcases hev with ⟨-, e⟩ | ⟨h1, -⟩; (rw [e, show B.1.2.1 - t = 0 by omega, evM]); exact absurd h1 c3, hdqe, manyP_nI hdq, weighP, if_pos c4]) hacc4 hf4 (by omega)
                · refine wp_aload_n dX10_findMatch_160 rfl 0 rfl ?_
                  refine wp_aload_n dX10_findMatch_161 rfl 0 rfl ?_
                  refine wp_getO (q := 132) fX10_34 hR rfl (rfl) (by decide) (by decide) rfl dX10_findMatch_162 ?_
                  refine wp_bipush (v := 12) dX10_findMatch_165 (by decide) ?_
                  refine wp_iald 12 (rfl) (rfl) (by decide) ((show 12 < 15 from by omega)) dX10_findMatch_167 ?_
                  refine wp_top (x' := nI dq) ((hT 12 (by decide)).trans hdqe) ?_
                  refine wp_callP (e := nI (bc dq)) (mm_siteS (av := [.int (nI dq)]) hC lX10_228 rfl rfl (Nat.le_of_ble_eq_true rfl) dX10_findMatch_168) (c_X10_many l (k0 + 3) _ _ _ _ dq hdq) (by omega) (by decide) ?_
                  refine wp_putI fX10_222 fn_10_35 rfl (rfl) (by decide) dX10_findMatch_171 ?_
                  refine wp_aload_n dX10_findMatch_174 rfl 0 rfl ?_
                  refine wp_iload dX10_findMatch_175 4 rfl ?_
                  refine wp_putI fX10_225 fn_10_36 rfl (rfl) (by decide) dX10_findMatch_177 ?_
                  obtain ⟨F6, hF6⟩ : ∃ z, z = u2 (u2 F4 123 35 (nI (bc dq))) 123 36 fg := ⟨_, rfl⟩
                  rw [← hF6]
                  have hacc6 : (F6 123 35, F6 123 36) = (nI (bc dq), fg) := by rw [hF6]; simp [u2, va_up]
                  have hf6 : frG 35 36 132 F A F6 A4 := hf4.trans (show frG 35 36 132 F4 A4 F6 A4 from by rw [hF6]; exact (frG.F (Or.inl rfl)).trans (frG.F (Or.inr rfl)))
                  refine wp_iinc (v := nI (row + 1)) 3 rfl (by exact nI_1 row) [1, 2, 3, 0, 5, 6, 7] (by decide) rfl rfl rfl dX10_findMatch_180 ?_
                  refine wp_goto 21 dX10_findMatch_183 (by decide) ?_
                  refine wp_lv [0, 1, 2, 3] rfl ?_
                  exact ih_lp (row + 1) (nI (bc dq), fg) F6 A4 (by omega) (by rw [hv, foldl_go (by omega), show evM B am B.1.2.1 0 row S 1 acc = weighP (manyP (T.2.2 2)) fg acc from by rcases hev with ⟨-, e⟩ | ⟨h1, -⟩; (rw [e, show B.1.2.1 - t = 0 by omega, evM]); exact absurd h1 c3, hdqe, manyP_nI hdq, weighP, if_neg c4]) hacc6 hf6 (by omega)
            · replace c2 := mt (ix_le (a := B.1.2.1) (b := t) (rfl) (rfl) (by omega) (by omega)).mpr c2
              refine wp_iload dX10_findMatch_64 5 rfl ?_
              refine wp_if_eq 138 dX10_findMatch_66 (by decide) (fun c5 => ?_) (fun c5 => ?_)
              · refine wp_iload dX10_findMatch_138 5 rfl ?_
                refine wp_if_eq 180 dX10_findMatch_140 (by decide) (fun c6 => ?_) (fun c6 => ?_)
                · refine wp_iinc (v := nI (row + 1)) 3 rfl (by exact nI_1 row) [1, 2, 3, 0, 5, 6, 7] (by decide) rfl rfl rfl dX10_findMatch_180 ?_
                  refine wp_goto 21 dX10_findMatch_183 (by decide) ?_
                  refine wp_lv [0, 1, 2, 3] rfl ?_
                  exact ih_lp (row + 1) acc F4 A4 (by omega) (by rw [hv, foldl_go (by omega), show evM B am B.1.2.1 0 row S 1 acc = acc from by rcases hev with ⟨h1, -⟩ | ⟨-, e⟩; (rw [h1] at c6; exact absurd c6 (by decide)); exact e]) hacc4 hf4 (by omega)
                · exact absurd c5 c6
              · refine wp_iload_n dX10_findMatch_69 rfl 3 rfl ?_
                refine wp_iload_n dX10_findMatch_70 rfl 2 rfl ?_
                refine wp_aload_n dX10_findMatch_71 rfl 0 rfl ?_
                refine wp_getI fX10_82 rfl (rfl) (by decide) dX10_findMatch_72 ?_
                refine wp_top (x' := nI B.1.2.1) (hMc.2.1) ?_
                refine wp_iconst (v := 1) dX10_findMatch_75 (by decide) ?_
                refine wp_isub dX10_findMatch_76 ?_
                refine wp_top (x' := nI (B.1.2.1 - 1)) (ix_sub (a := B.1.2.1) (b := 1) rfl rfl (by omega)) ?_
                refine wp_iload dX10_findMatch_77 6 rfl ?_
                refine wp_isub dX10_findMatch_79 ?_
                refine wp_top (x' := nI (B.1.2.1 - 1 - t)) (ix_sub (a := B.1.2.1 - 1) (b := t) rfl rfl (by omega)) ?_
                refine wp_callP (e := nI ((B.1.1 + 1) ^ (B.1.2.1 - 1 - t))) (mm_siteS (av := [.int (nI (B.1.1 + 1)), .int (nI (B.1.2.1 - 1 - t))]) hC lX10_212 rfl rfl (Nat.le_of_ble_eq_true rfl) dX10_findMatch_80) (c_X10_power l (k0 + 3) _ _ _ _ (B.1.1 + 1) (B.1.2.1 - 1 - t) (by omega)) (by omega) (by decide) ?_
                obtain ⟨pw, hpw⟩ : ∃ pw, pw = ((B.1.1 + 1) ^ (B.1.2.1 - 1 - t)) := ⟨_, rfl⟩
                have hpl := pow_le (W := (B.1.1 + 1)) (T := B.1.2.1) (k := B.1.2.1 - 1 - t) (by omega) hw1.2.1 (by omega) (by omega)
                rw [← hpw] at hpl ⊢
                obtain ⟨d, hdg⟩ : ∃ d, d = row / ((B.1.1 + 1) ^ (B.1.2.1 - 1 - t)) % (B.1.1 + 1) := ⟨_, rfl⟩
                have hdW : d < (B.1.1 + 1) := by rw [hdg]; exact Nat.mod_lt _ (by omega)
                have hrp := Nat.div_le_self row pw
                refine wp_idiv dX10_findMatch_83 (nI_ne0 (by omega) (by omega)) ?_
                refine wp_top (x' := nI (row / pw)) (ix_div (a := row) (b := pw) rfl rfl (by omega) (by omega) (by omega)) ?_
                refine wp_iload_n dX10_findMatch_84 rfl 2 rfl ?_
                refine wp_irem dX10_findMatch_85 (nI_ne0 (by omega) (by omega)) ?_
                refine wp_top (x' := nI d) ((ix_rem (a := row / pw) (b := B.1.1 + 1) rfl rfl (by omega) (by omega) (by omega)).trans (by rw [hdg, hpw])) ?_
                refine wp_istore [1, 2, 3, 4, 5, 6, 7, 0] (by decide) rfl rfl rfl dX10_findMatch_86 ?_
                refine wp_bipush (v := 10) dX10_findMatch_88 (by decide) ?_
                refine wp_iload dX10_findMatch_90 4 rfl ?_
                refine wp_imul dX10_findMatch_92 ?_
                refine wp_iload dX10_findMatch_93 7 rfl ?_
                refine wp_iadd dX10_findMatch_95 ?_
                refine wp_istore [1, 2, 3, 4, 0, 6, 7, 8] (by decide) rfl rfl rfl dX10_findMatch_96 ?_
                refine wp_iload dX10_findMatch_98 7 rfl ?_
                refine wp_if_eq 125 dX10_findMatch_100 (by decide) (fun c7 => ?_) (fun c7 => ?_)
                · replace c7 := (ix_eq (a := d) (b := 0) (rfl) (rfl) (by omega) (by omega)).mp c7
                  refine wp_iconst (v := 1) dX10_findMatch_125 (by decide) ?_
                  refine wp_goto 130 dX10_findMatch_126 (by decide) ?_
                  refine wp_istore [1, 2, 3, 4, 5, 0, 7, 8] (by decide) rfl rfl rfl dX10_findMatch_130 ?_
                  refine wp_iinc (v := nI (t + 1)) 6 rfl (by exact nI_1 t) [1, 2, 3, 4, 5, 6, 0, 8] (by decide) rfl rfl rfl dX10_findMatch_132 ?_
                  refine wp_goto 55 dX10_findMatch_135 (by decide) ?_
                  refine wp_lv [0, 1, 2, 3, 4, 5, 6] rfl ?_
                  exact ih_lq (t + 1) 1 (10 * fg + nI d) T F4 A4 (by omega) (by rcases hev with ⟨-, e⟩ | ⟨h1, -⟩; exact Or.inl ⟨rfl, by rw [e, show B.1.2.1 - t = B.1.2.1 - 1 - t + 1 by omega, evM, ← hdg, if_pos c7, c7]; rw [show nI 0 = 0 from rfl, Int32.add_zero, show B.1.2.1 - 1 - t = B.1.2.1 - (t + 1) by omega]⟩; exact absurd h1 c5) hT hdT hkT hf4 hacc4 (by omega)
                · replace c7 := mt (ix_eq (a := d) (b := 0) (rfl) (rfl) (by omega) (by omega)).mpr c7
                  refine wp_iload_n dX10_findMatch_103 rfl 1 rfl ?_
                  refine wp_iload dX10_findMatch_104 6 rfl ?_
                  refine wp_callP (e := bt am (nI t)) (mm_siteS (av := [.int am, .int (nI t)]) hC lX10_144 rfl rfl (Nat.le_of_ble_eq_true rfl) dX10_findMatch_106) (c_X10_has l (k0 + 3) _ _ _ _ am (nI t)) (by omega) (by decide) ?_
                  refine wp_if_eq 129 dX10_findMatch_109 (by decide) (fun c8 => ?_) (fun c8 => ?_)
                  · refine wp_iconst (v := 0) dX10_findMatch_129 (by decide) ?_
                    refine wp_istore [1, 2, 3, 4, 5, 0, 7, 8] (by decide) rfl rfl rfl dX10_findMatch_130 ?_
                    refine wp_iinc (v := nI (t + 1)) 6 rfl (by exact nI_1 t) [1, 2, 3, 4, 5, 6, 0, 8] (by decide) rfl rfl rfl dX10_findMatch_132 ?_
                    refine wp_goto 55 dX10_findMatch_135 (by decide) ?_
                    refine wp_lv [0, 1, 2, 3, 4, 5, 6] rfl ?_
                    exact ih_lq (t + 1) 0 (10 * fg + nI d) T F4 A4 (by omega) (by rcases hev with ⟨-, e⟩ | ⟨h1, -⟩; exact Or.inr ⟨rfl, by rw [e, show B.1.2.1 - t = B.1.2.1 - 1 - t + 1 by omega, evM, ← hdg, if_neg c7, if_pos c8]⟩; exact absurd h1 c5) hT hdT hkT hf4 hacc4 (by omega)
                  · refine wp_aload_n dX10_findMatch_112 rfl 0 rfl ?_
                    refine wp_iload dX10_findMatch_113 6 rfl ?_
                    refine wp_iload dX10_findMatch_115 7 rfl ?_
                    refine wp_iconst (v := 1) dX10_findMatch_117 (by decide) ?_
                    refine wp_isub dX10_findMatch_118 ?_
                    refine wp_top (x' := nI (d - 1)) (ix_sub (a := d) (b := 1) rfl rfl (by omega)) ?_
                    refine wp_callI (mm_siteV (av := [.int (nI t), .int (nI (d - 1))]) hC lX10_215 (rfl) (by decide) ⟨_, rfl, rfl⟩ rfl rfl (Nat.le_of_ble_eq_true rfl) dX10_findMatch_119) (c_X10_throwsAt l k0 _ _ _ _ t (d - 1) T B hR hMc hw hT hdT hkT (by omega) (by omega)) (by omega) (by decide) ?_
                    rintro _ F5 A5 _ _ ⟨rfl, hT5, hp5, rfl, rfl⟩
                    have hf5 := hf4.trans (hp5.G 35 36 132)
                    by_cases hc : canB B T t (d - 1) = 0
                    · rw [thrS, if_pos hc] at hT5
                      refine wp_top (x' := 0) (if_pos hc) ?_
                      refine wp_if_eq 129 dX10_findMatch_122 (by decide) (fun c9 => ?_) (fun c9 => ?_)
                      · refine wp_iconst (v := 0) dX10_findMatch_129 (by decide) ?_
                        refine wp_istore [1, 2, 3, 4, 5, 0, 7, 8] (by decide) rfl rfl rfl dX10_findMatch_130 ?_
                        refine wp_iinc (v := nI (t + 1)) 6 rfl (by exact nI_1 t) [1, 2, 3, 4, 5, 6, 0, 8] (by decide) rfl rfl rfl dX10_findMatch_132 ?_
                        refine wp_goto 55 dX10_findMatch_135 (by decide) ?_
                        refine wp_lv [0, 1, 2, 3, 4, 5, 6] rfl ?_
                        exact ih_lq (t + 1) 0 (10 * fg + nI d) T F5 A5 (by omega) (by rcases hev with ⟨-, e⟩ | ⟨h1, -⟩; exact Or.inr ⟨rfl, by rw [e, show B.1.2.1 - t = B.1.2.1 - 1 - t + 1 by omega, evM, ← hdg, if_neg c7, if_neg c8, if_pos hc]⟩; exact absurd h1 c5) hT5 hdT hkT hf5 (by rw [hp5.2.1 35 (by decide), hp5.2.1 36 (by decide)]; exact hacc4) (by omega)
                      · exact absurd (by decide) c9
                    · rw [thrS, if_neg hc] at hT5
                      refine wp_top (x' := 1) (if_neg hc) ?_
                      refine wp_if_eq 129 dX10_findMatch_122 (by decide) (fun c10 => ?_) (fun c10 => ?_)
                      · exact absurd c10 (by decide)
                      · refine wp_iconst (v := 1) dX10_findMatch_125 (by decide) ?_
                        refine wp_goto 130 dX10_findMatch_126 (by decide) ?_
                        refine wp_istore [1, 2, 3, 4, 5, 0, 7, 8] (by decide) rfl rfl rfl dX10_findMatch_130 ?_
                        refine wp_iinc (v := nI (t + 1)) 6 rfl (by exact nI_1 t) [1, 2, 3, 4, 5, 6, 0, 8] (by decide) rfl rfl rfl dX10_findMatch_132 ?_
                        refine wp_goto 55 dX10_findMatch_135 (by decide) ?_
                        refine wp_lv [0, 1, 2, 3, 4, 5, 6] rfl ?_
                        exact ih_lq (t + 1) 1 (10 * fg + nI d) (strikeP B T t (d - 1)).1 F5 A5 (by omega) (by rcases hev with ⟨-, e⟩ | ⟨h1, -⟩; exact Or.inl ⟨rfl, by rw [e, show B.1.2.1 - t = B.1.2.1 - 1 - t + 1 by omega, evM, ← hdg, if_neg c7, if_neg c8, if_neg hc]; rw [show B.1.2.1 - 1 - t = B.1.2.1 - (t + 1) by omega]⟩; exact absurd h1 c5) hT5 (dn_strike hw (by omega) hdT) (strike_3 (by omega) hw1.1 hkT) hf5 (by rw [hp5.2.1 35 (by decide), hp5.2.1 36 (by decide)]; exact hacc4) (by omega)
        exact lq (B.1.2.1 + 1) 0 1 1 S F2 A3 (Nat.zero_le _) (Or.inl ⟨rfl, rfl⟩) hT3 hd hkS hf3 hacc (by omega)
  exact lp (MM + 1) 0 (-9, -9) F1 A (Nat.zero_le _) (by rw [Nat.sub_zero, hMM]; exact (evM_all _ _ _ _ _).symm) hacc0 hfr (by omega)

