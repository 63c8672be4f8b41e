theorem partsP_end {tx : Nat → Int32} {n p : Nat} {B : BV} (h : ¬ p < n) : ∀ f, partsP tx n f p B = (B, -9)
  | 0 => rfl
  | f + 1 => by unfold partsP; rw [if_neg h]
theorem partsP_go {tx : Nat → Int32} {n p : Nat} {B : BV} {f : Nat} (h : p < n) (hf : 0 < f) : partsP tx n f p B = if (readQP tx n B p).2 = -9 then partsP tx n (f - 1) (p + 4) (readQP tx n B p).1 else readQP tx n B p := by
  obtain ⟨g, rfl⟩ : ∃ g, f = g + 1 := ⟨f - 1, by omega⟩
  rw [partsP, if_pos h]; rfl
set_option maxRecDepth 100000 in
set_option maxHeartbeats 600000 in
theorem c_X10_readPart (l : Launch) (k : Nat) (F A : mmF) (R : mmR) (G : mmG) (n : Nat) (tx : Nat → Int32) (p : Nat) (hR : mm_RL R) (hn60 : n ≤ 60) (hn : F 123 2 = nI n) (ht : ∀ i, i < n → A 124 i = tx i) (h3 : F 123 3 = nI p) (B : BV) (hMr : isM F A 12 128 B) (hw1 : B.1.1 ≤ 5 ∧ B.1.2.1 ≤ 4 ∧ B.1.2.2 ≤ 4) (hp : p < n) : Meets l hX10_readPart (k + 3) 144 144 [.ref 123] F A R G (pI (fun v F1 A1 R1 G1 => frR F A F1 A1 ∧ (if (readQP tx n B p).2 = -9 then v = 1 ∧ F1 123 3 = nI (p + 4) ∧ isM F1 A1 12 128 (readQP tx n B p).1 else v = 0 ∧ F1 123 3 = (readQP tx n B p).2) ∧ R = R1 ∧ G = G1)) := by
  refine mm_start rfl (Nat.le_of_ble_eq_true rfl) (fun X hC => ?_)
  show WP hX10_readPart X 144 0 [(0, .ref 123)] [] F A R G
  refine wp_aload_n dX10_readPart_0 rfl 0 rfl ?_
  refine wp_getO (q := 124) fX10_7 hR rfl (rfl) (by decide) (by decide) rfl dX10_readPart_1 ?_
  refine wp_aload_n dX10_readPart_4 rfl 0 rfl ?_
  refine wp_getI fX10_90 rfl (rfl) (by decide) dX10_readPart_5 ?_
  refine wp_top (x' := nI (p)) (h3) ?_
  refine wp_iald p (rfl) (rfl) (by decide) ((show p < 60 from by omega)) dX10_readPart_8 ?_
  refine wp_top (x' := tx p) (ht p (by omega)) ?_
  refine wp_istore_n [1, 0] (by decide) rfl rfl rfl dX10_readPart_9 rfl ?_
  refine wp_aload_n dX10_readPart_10 rfl 0 rfl ?_
  refine wp_dup dX10_readPart_11 rfl ?_
  refine wp_getI fX10_90 rfl (rfl) (by decide) dX10_readPart_12 ?_
  refine wp_top (x' := nI (p)) (h3) ?_
  refine wp_iconst (v := 1) dX10_readPart_15 (by decide) ?_
  refine wp_iadd dX10_readPart_16 ?_
  refine wp_top (x' := nI (p + 1)) (nI_1 p) ?_
  refine wp_putI fX10_90 fn_10_3 rfl (rfl) (by decide) dX10_readPart_17 ?_
  obtain ⟨F1, hF1⟩ : ∃ z, z = u2 F 123 3 (nI (p + 1)) := ⟨_, rfl⟩
  rw [← hF1]
  have hfr : frR F A F1 A := by rw [hF1]; exact frR.F (Or.inl rfl)
  have h3 : F1 123 3 = nI (p + 1) := by rw [hF1, u2_row]; exact va_up_self _ _ _
  have hMr : isM F1 A 12 128 B := isM_c hMr ⟨by rw [hF1]; simp [u2, va_up], by rw [hF1]; simp [u2, va_up], by rw [hF1]; simp [u2, va_up]⟩ ⟨rfl, rfl, rfl⟩
  have hn : F1 123 2 = nI n := by rw [hF1]; simp [u2, va_up]; exact hn
  refine wp_iload_n dX10_readPart_20 rfl 1 rfl ?_
  refine wp_bipush (v := 72) dX10_readPart_21 (by decide) ?_
  refine wp_icmp_ne 39 dX10_readPart_23 (by decide) (fun c1 => ?_) (fun c1 => ?_)
  · refine wp_iload_n dX10_readPart_39 rfl 1 rfl ?_
    refine wp_bipush (v := 84) dX10_readPart_40 (by decide) ?_
    refine wp_icmp_ne 58 dX10_readPart_42 (by decide) (fun c2 => ?_) (fun c2 => ?_)
    · refine wp_iload_n dX10_readPart_58 rfl 1 rfl ?_
      refine wp_bipush (v := 76) dX10_readPart_59 (by decide) ?_
      refine wp_icmp_ne 85 dX10_readPart_61 (by decide) (fun c3 => ?_) (fun c3 => ?_)
      · refine wp_aload_n dX10_readPart_85 rfl 0 rfl ?_
        refine wp_dup dX10_readPart_86 rfl ?_
        refine wp_getI fX10_90 rfl (rfl) (by decide) dX10_readPart_87 ?_
        refine wp_top (x' := nI (p + 1)) (h3) ?_
        refine wp_iconst (v := 1) dX10_readPart_90 (by decide) ?_
        refine wp_isub dX10_readPart_91 ?_
        refine wp_top (x' := nI p) (ix_sub (a := p + 1) (b := 1) rfl rfl (by omega)) ?_
        refine wp_putI fX10_90 fn_10_3 rfl (rfl) (by decide) dX10_readPart_92 ?_
        obtain ⟨F5, hF5⟩ : ∃ z, z = u2 F1 123 3 (nI p) := ⟨_, rfl⟩
        rw [← hF5]
        have hfr := hfr.trans (show frR F1 A F5 A from by rw [hF5]; exact frR.F (Or.inl rfl))
        have h3 : F5 123 3 = nI p := by rw [hF5, u2_row]; exact va_up_self _ _ _
        refine wp_iconst (v := 0) dX10_readPart_95 (by decide) ?_
        exact wp_iret hC rfl rfl dX10_readPart_96 (pI_ok (by rw [show readQP tx n B p = (B, nI p) from by unfold readQP letP; rw [if_pos hp, if_neg c1, if_neg c2, if_neg c3]]; exact ⟨hfr, by rw [if_neg (show ¬ nI p = -9 from nI_ne9 (by omega))]; exact ⟨rfl, h3⟩, rfl, rfl⟩))
      · refine wp_aload_n dX10_readPart_64 rfl 0 rfl ?_
        refine wp_getI fX10_109 rfl (rfl) (by decide) dX10_readPart_65 ?_
        refine wp_top (x' := nI B.1.2.2) (hMr.2.2.1) ?_
        refine wp_iconst (v := 4) dX10_readPart_68 (by decide) ?_
        refine wp_icmp_ge 85 dX10_readPart_69 (by decide) (fun c4 => ?_) (fun c4 => ?_)
        · replace c4 := (ix_le (a := 4) (b := B.1.2.2) (rfl) (rfl) (by omega) (by omega)).mp c4
          refine wp_aload_n dX10_readPart_85 rfl 0 rfl ?_
          refine wp_dup dX10_readPart_86 rfl ?_
          refine wp_getI fX10_90 rfl (rfl) (by decide) dX10_readPart_87 ?_
          refine wp_top (x' := nI (p + 1)) (h3) ?_
          refine wp_iconst (v := 1) dX10_readPart_90 (by decide) ?_
          refine wp_isub dX10_readPart_91 ?_
          refine wp_top (x' := nI p) (ix_sub (a := p + 1) (b := 1) rfl rfl (by omega)) ?_
          refine wp_putI fX10_90 fn_10_3 rfl (rfl) (by decide) dX10_readPart_92 ?_
          obtain ⟨F5, hF5⟩ : ∃ z, z = u2 F1 123 3 (nI p) := ⟨_, rfl⟩
          rw [← hF5]
          have hfr := hfr.trans (show frR F1 A F5 A from by rw [hF5]; exact frR.F (Or.inl rfl))
          have h3 : F5 123 3 = nI p := by rw [hF5, u2_row]; exact va_up_self _ _ _
          refine wp_iconst (v := 0) dX10_readPart_95 (by decide) ?_
          exact wp_iret hC rfl rfl dX10_readPart_96 (pI_ok (by rw [show readQP tx n B p = (B, nI p) from by unfold readQP letP; rw [if_pos hp, if_neg c1, if_neg c2, if_pos c3]; unfold readLP; (first | rw [if_pos (show 4 ≤ B.1.2.2 by omega)] | rw [if_neg (show ¬ 4 ≤ B.1.2.2 by omega), if_neg (show ¬ 2 ≤ B.1.1 by omega)])]; exact ⟨hfr, by rw [if_neg (show ¬ nI p = -9 from nI_ne9 (by omega))]; exact ⟨rfl, h3⟩, rfl, rfl⟩))
        · replace c4 := mt (ix_le (a := 4) (b := B.1.2.2) (rfl) (rfl) (by omega) (by omega)).mpr c4
          refine wp_aload_n dX10_readPart_72 rfl 0 rfl ?_
          refine wp_getI fX10_95 rfl (rfl) (by decide) dX10_readPart_73 ?_
          refine wp_top (x' := nI B.1.1) (hMr.1) ?_
          refine wp_iconst (v := 1) dX10_readPart_76 (by decide) ?_
          refine wp_icmp_le 85 dX10_readPart_77 (by decide) (fun c5 => ?_) (fun c5 => ?_)
          · replace c5 := (ix_le (a := B.1.1) (b := 1) (rfl) (rfl) (by omega) (by omega)).mp c5
            refine wp_aload_n dX10_readPart_85 rfl 0 rfl ?_
            refine wp_dup dX10_readPart_86 rfl ?_
            refine wp_getI fX10_90 rfl (rfl) (by decide) dX10_readPart_87 ?_
            refine wp_top (x' := nI (p + 1)) (h3) ?_
            refine wp_iconst (v := 1) dX10_readPart_90 (by decide) ?_
            refine wp_isub dX10_readPart_91 ?_
            refine wp_top (x' := nI p) (ix_sub (a := p + 1) (b := 1) rfl rfl (by omega)) ?_
            refine wp_putI fX10_90 fn_10_3 rfl (rfl) (by decide) dX10_readPart_92 ?_
            obtain ⟨F5, hF5⟩ : ∃ z, z = u2 F1 123 3 (nI p) := ⟨_, rfl⟩
            rw [← hF5]
            have hfr := hfr.trans (show frR F1 A F5 A from by rw [hF5]; exact frR.F (Or.inl rfl))
            have h3 : F5 123 3 = nI p := by rw [hF5, u2_row]; exact va_up_self _ _ _
            refine wp_iconst (v := 0) dX10_readPart_95 (by decide) ?_
            exact wp_iret hC rfl rfl dX10_readPart_96 (pI_ok (by rw [show readQP tx n B p = (B, nI p) from by unfold readQP letP; rw [if_pos hp, if_neg c1, if_neg c2, if_pos c3]; unfold readLP; (first | rw [if_pos (show 4 ≤ B.1.2.2 by omega)] | rw [if_neg (show ¬ 4 ≤ B.1.2.2 by omega), if_neg (show ¬ 2 ≤ B.1.1 by omega)])]; exact ⟨hfr, by rw [if_neg (show ¬ nI p = -9 from nI_ne9 (by omega))]; exact ⟨rfl, h3⟩, rfl, rfl⟩))
          · replace c5 := mt (ix_le (a := B.1.1) (b := 1) (rfl) (rfl) (by omega) (by omega)).mpr c5
            refine wp_aload_n dX10_readPart_80 rfl 0 rfl ?_
            refine wp_callI (mm_siteV (av := []) hC lX10_119 (rfl) (by decide) ⟨_, rfl, rfl⟩ rfl rfl (Nat.le_of_ble_eq_true rfl) dX10_readPart_81) (c_X10_readOneLaw l k _ _ _ _ n tx p hR hn60 hn ht h3 B hMr hw1 hp (by omega) (by omega)) (by omega) (by decide) ?_
            rintro v F2 A2 _ _ ⟨hfr2, hif, rfl, rfl⟩
            have hv01 : v = 0 ∨ v = 1 := by split at hif; exact Or.inr hif.1; exact Or.inl hif.1
            exact wp_iret hC rfl (by rcases hv01 with h | h <;> rw [h] <;> rfl) dX10_readPart_84 (pI_ok (by rw [show readQP tx n B p = readLP tx n B p from by unfold readQP letP; rw [if_pos hp, if_neg c1, if_neg c2, if_pos c3]]; exact ⟨hfr.trans hfr2, hif, rfl, rfl⟩))
    · refine wp_aload_n dX10_readPart_45 rfl 0 rfl ?_
      refine wp_getI fX10_106 rfl (rfl) (by decide) dX10_readPart_46 ?_
      refine wp_top (x' := nI B.1.2.1) (hMr.2.1) ?_
      refine wp_iconst (v := 4) dX10_readPart_49 (by decide) ?_
      refine wp_icmp_ge 58 dX10_readPart_50 (by decide) (fun c6 => ?_) (fun c6 => ?_)
      · replace c6 := (ix_le (a := 4) (b := B.1.2.1) (rfl) (rfl) (by omega) (by omega)).mp c6
        refine wp_iload_n dX10_readPart_58 rfl 1 rfl ?_
        refine wp_bipush (v := 76) dX10_readPart_59 (by decide) ?_
        refine wp_icmp_ne 85 dX10_readPart_61 (by decide) (fun c7 => ?_) (fun c7 => ?_)
        · refine wp_aload_n dX10_readPart_85 rfl 0 rfl ?_
          refine wp_dup dX10_readPart_86 rfl ?_
          refine wp_getI fX10_90 rfl (rfl) (by decide) dX10_readPart_87 ?_
          refine wp_top (x' := nI (p + 1)) (h3) ?_
          refine wp_iconst (v := 1) dX10_readPart_90 (by decide) ?_
          refine wp_isub dX10_readPart_91 ?_
          refine wp_top (x' := nI p) (ix_sub (a := p + 1) (b := 1) rfl rfl (by omega)) ?_
          refine wp_putI fX10_90 fn_10_3 rfl (rfl) (by decide) dX10_readPart_92 ?_
          obtain ⟨F5, hF5⟩ : ∃ z, z = u2 F1 123 3 (nI p) := ⟨_, rfl⟩
          rw [← hF5]
          have hfr := hfr.trans (show frR F1 A F5 A from by rw [hF5]; exact frR.F (Or.inl rfl))
          have h3 : F5 123 3 = nI p := by rw [hF5, u2_row]; exact va_up_self _ _ _
          refine wp_iconst (v := 0) dX10_readPart_95 (by decide) ?_
          exact wp_iret hC rfl rfl dX10_readPart_96 (pI_ok (by rw [show readQP tx n B p = (B, nI p) from by unfold readQP letP; rw [if_pos hp, if_neg c1, if_pos c2]; unfold readTP; rw [if_neg (by omega)]]; exact ⟨hfr, by rw [if_neg (show ¬ nI p = -9 from nI_ne9 (by omega))]; exact ⟨rfl, h3⟩, rfl, rfl⟩))
        · exact absurd (c2.symm.trans c7) (by decide)
      · replace c6 := mt (ix_le (a := 4) (b := B.1.2.1) (rfl) (rfl) (by omega) (by omega)).mpr c6
        refine wp_aload_n dX10_readPart_53 rfl 0 rfl ?_
        refine wp_callI (mm_siteV (av := []) hC lX10_116 (rfl) (by decide) ⟨_, rfl, rfl⟩ rfl rfl (Nat.le_of_ble_eq_true rfl) dX10_readPart_54) (c_X10_readOneThrower l k _ _ _ _ n tx p hR hn60 hn ht h3 B hMr hw1 hp (by omega)) (by omega) (by decide) ?_
        rintro v F2 A2 _ _ ⟨hfr2, hif, rfl, rfl⟩
        have hv01 : v = 0 ∨ v = 1 := by split at hif; exact Or.inr hif.1; exact Or.inl hif.1
        exact wp_iret hC rfl (by rcases hv01 with h | h <;> rw [h] <;> rfl) dX10_readPart_57 (pI_ok (by rw [show readQP tx n B p = readTP tx n B p from by unfold readQP letP; rw [if_pos hp, if_neg c1, if_pos c2]]; exact ⟨hfr.trans hfr2, hif, rfl, rfl⟩))
  · refine wp_aload_n dX10_readPart_26 rfl 0 rfl ?_
    refine wp_getI fX10_95 rfl (rfl) (by decide) dX10_readPart_27 ?_
    refine wp_top (x' := nI B.1.1) (hMr.1) ?_
    refine wp_iconst (v := 5) dX10_readPart_30 (by decide) ?_
    refine wp_icmp_ge 39 dX10_readPart_31 (by decide) (fun c8 => ?_) (fun c8 => ?_)
    · replace c8 := (ix_le (a := 5) (b := B.1.1) (rfl) (rfl) (by omega) (by omega)).mp c8
      refine wp_iload_n dX10_readPart_39 rfl 1 rfl ?_
      refine wp_bipush (v := 84) dX10_readPart_40 (by decide) ?_
      refine wp_icmp_ne 58 dX10_readPart_42 (by decide) (fun c9 => ?_) (fun c9 => ?_)
      · refine wp_iload_n dX10_readPart_58 rfl 1 rfl ?_
        refine wp_bipush (v := 76) dX10_readPart_59 (by decide) ?_
        refine wp_icmp_ne 85 dX10_readPart_61 (by decide) (fun c10 => ?_) (fun c10 => ?_)
        · refine wp_aload_n dX10_readPart_85 rfl 0 rfl ?_
          refine wp_dup dX10_readPart_86 rfl ?_
          refine wp_getI fX10_90 rfl (rfl) (by decide) dX10_readPart_87 ?_
          refine wp_top (x' := nI (p + 1)) (h3) ?_
          refine wp_iconst (v := 1) dX10_readPart_90 (by decide) ?_
          refine wp_isub dX10_readPart_91 ?_
          refine wp_top (x' := nI p) (ix_sub (a := p + 1) (b := 1) rfl rfl (by omega)) ?_
          refine wp_putI fX10_90 fn_10_3 rfl (rfl) (by decide) dX10_readPart_92 ?_
          obtain ⟨F5, hF5⟩ : ∃ z, z = u2 F1 123 3 (nI p) := ⟨_, rfl⟩
          rw [← hF5]
          have hfr := hfr.trans (show frR F1 A F5 A from by rw [hF5]; exact frR.F (Or.inl rfl))
          have h3 : F5 123 3 = nI p := by rw [hF5, u2_row]; exact va_up_self _ _ _
          refine wp_iconst (v := 0) dX10_readPart_95 (by decide) ?_
          exact wp_iret hC rfl rfl dX10_readPart_96 (pI_ok (by rw [show readQP tx n B p = (B, nI p) from by unfold readQP letP; rw [if_pos hp, if_pos c1]; unfold readHP; rw [if_neg (by omega)]]; exact ⟨hfr, by rw [if_neg (show ¬ nI p = -9 from nI_ne9 (by omega))]; exact ⟨rfl, h3⟩, rfl, rfl⟩))
        · exact absurd (c1.symm.trans c10) (by decide)
      · exact absurd (c1.symm.trans c9) (by decide)
    · replace c8 := mt (ix_le (a := 5) (b := B.1.1) (rfl) (rfl) (by omega) (by omega)).mpr c8
      refine wp_aload_n dX10_readPart_34 rfl 0 rfl ?_
      refine wp_callI (mm_siteV (av := []) hC lX10_112 (rfl) (by decide) ⟨_, rfl, rfl⟩ rfl rfl (Nat.le_of_ble_eq_true rfl) dX10_readPart_35) (c_X10_readOneHusk l k _ _ _ _ n tx p hR hn60 hn ht h3 B hMr hw1 hp (by omega)) (by omega) (by decide) ?_
      rintro v F2 A2 _ _ ⟨hfr2, hif, rfl, rfl⟩
      have hv01 : v = 0 ∨ v = 1 := by split at hif; exact Or.inr hif.1; exact Or.inl hif.1
      exact wp_iret hC rfl (by rcases hv01 with h | h <;> rw [h] <;> rfl) dX10_readPart_38 (pI_ok (by rw [show readQP tx n B p = readHP tx n B p from by unfold readQP letP; rw [if_pos hp, if_pos c1]]; exact ⟨hfr.trans hfr2, hif, rfl, rfl⟩))

set_option maxRecDepth 100000 in
set_option maxHeartbeats 600000 in
theorem c_X10_readFair (l : Launch) (k : Nat) (F A : mmF) (R : mmR) (G : mmG) (n : Nat) (tx : Nat → Int32) (hR : mm_RL R) (hn60 : n ≤ 60) (hn : F 123 2 = nI n) (ht : ∀ i, i < n → A 124 i = tx i) : Meets l hX10_readFair (k + 4) 144 144 [.ref 123] F A R G (pI (fun v F1 A1 R1 G1 => v = (readP tx n).2 ∧ scN F A F1 A1 ∧ ((readP tx n).2 = -9 → isM F1 A1 12 128 (readP tx n).1 ∧ F1 123 10 = figP tx n 1 0 2 ∧ F1 123 11 = figP tx n 2 0 9) ∧ R = R1 ∧ G = G1)) := by
  refine mm_start rfl (Nat.le_of_ble_eq_true rfl) (fun X hC => ?_)
  show WP hX10_readFair X 144 0 [(0, .ref 123)] [] F A R G
  refine wp_aload_n dX10_readFair_0 rfl 0 rfl ?_
  refine wp_iconst (v := 0) dX10_readFair_1 (by decide) ?_
  refine wp_putI fX10_90 fn_10_3 rfl (rfl) (by decide) dX10_readFair_2 ?_
  refine wp_aload_n dX10_readFair_5 rfl 0 rfl ?_
  refine wp_iconst (v := 0) dX10_readFair_6 (by decide) ?_
  refine wp_putI fX10_95 fn_10_12 rfl (rfl) (by decide) dX10_readFair_7 ?_
  refine wp_aload_n dX10_readFair_10 rfl 0 rfl ?_
  refine wp_iconst (v := 0) dX10_readFair_11 (by decide) ?_
  refine wp_putI fX10_106 fn_10_14 rfl (rfl) (by decide) dX10_readFair_12 ?_
  refine wp_aload_n dX10_readFair_15 rfl 0 rfl ?_
  refine wp_iconst (v := 0) dX10_readFair_16 (by decide) ?_
  refine wp_putI fX10_109 fn_10_16 rfl (rfl) (by decide) dX10_readFair_17 ?_
  obtain ⟨F1, hF1⟩ : ∃ z, z = u2 (u2 (u2 (u2 F 123 3 0) 123 12 0) 123 14 0) 123 16 0 := ⟨_, rfl⟩
  rw [← hF1]
  have hs : scN F A F1 A := by rw [hF1]; exact ((scN.F (by decide)).trans (scN.F (by decide))).trans ((scN.F (by decide)).trans (scN.F (by decide)))
  have hn : F1 123 2 = nI n := by rw [hF1]; simp [u2, va_up]; exact hn
  have hMr : isM F1 A 12 128 noB := ⟨by rw [hF1]; simp [u2, va_up]; rfl, by rw [hF1]; simp [u2, va_up]; rfl, by rw [hF1]; simp [u2, va_up]; rfl, fun h hh => absurd hh (Nat.not_lt_zero _), fun h hh => absurd hh (Nat.not_lt_zero _), fun h hh => absurd hh (Nat.not_lt_zero _)⟩
  refine wp_aload_n dX10_readFair_20 rfl 0 rfl ?_
  refine wp_getI fX10_87 rfl (rfl) (by decide) dX10_readFair_21 ?_
  refine wp_top (x' := nI n) (hn) ?_
  refine wp_if_eq 38 dX10_readFair_24 (by decide) (fun c1 => ?_) (fun c1 => ?_)
  · replace c1 := (ix_eq (a := n) (b := 0) (rfl) (rfl) (by omega) (by omega)).mp c1
    refine wp_iconst (v := 0) dX10_readFair_38 (by decide) ?_
    exact wp_iret hC rfl rfl dX10_readFair_39 (pI_ok (by rw [show readP tx n = (noB, 0) from by unfold readP letP; (first | rw [if_neg (show ¬ 0 < n by omega), if_neg (by decide)] | rw [if_pos (show 0 < n by omega), if_neg c2])]; exact ⟨rfl, hs, fun h => absurd h (by decide), rfl, rfl⟩))
  · replace c1 := mt (ix_eq (a := n) (b := 0) (rfl) (rfl) (by omega) (by omega)).mpr c1
    refine wp_aload_n dX10_readFair_27 rfl 0 rfl ?_
    refine wp_getO (q := 124) fX10_7 hR rfl (rfl) (by decide) (by decide) rfl dX10_readFair_28 ?_
    refine wp_iconst (v := 0) dX10_readFair_31 (by decide) ?_
    refine wp_iald 0 (rfl) (rfl) (by decide) ((show 0 < 60 from by omega)) dX10_readFair_32 ?_
    refine wp_top (x' := tx 0) (ht 0 (by omega)) ?_
    refine wp_bipush (v := 83) dX10_readFair_33 (by decide) ?_
    refine wp_icmp_eq 40 dX10_readFair_35 (by decide) (fun c2 => ?_) (fun c2 => ?_)
    · refine wp_aload_n dX10_readFair_40 rfl 0 rfl ?_
      refine wp_iconst (v := 1) dX10_readFair_41 (by decide) ?_
      refine wp_putI fX10_90 fn_10_3 rfl (rfl) (by decide) dX10_readFair_42 ?_
      obtain ⟨F2, hF2⟩ : ∃ z, z = u2 F1 123 3 1 := ⟨_, rfl⟩
      rw [← hF2]
      have hs := hs.trans (show scN F1 A F2 A from by rw [hF2]; exact scN.F (by decide))
      have h3 : F2 123 3 = nI 1 := by rw [hF2, u2_row]; exact va_up_self _ _ _
      have hMr : isM F2 A 12 128 noB := isM_c hMr ⟨by rw [hF2]; simp [u2, va_up], by rw [hF2]; simp [u2, va_up], by rw [hF2]; simp [u2, va_up]⟩ ⟨rfl, rfl, rfl⟩
      have hn : F2 123 2 = nI n := by rw [hF2]; simp [u2, va_up]; exact hn
      refine wp_aload_n dX10_readFair_45 rfl 0 rfl ?_
      refine wp_aload_n dX10_readFair_46 rfl 0 rfl ?_
      refine wp_iconst (v := 0) dX10_readFair_47 (by decide) ?_
      refine wp_iconst (v := 2) dX10_readFair_48 (by decide) ?_
      refine wp_callI (mm_siteV (av := [.int 0, .int 2]) hC lX10_102 (rfl) (by decide) ⟨_, rfl, rfl⟩ rfl rfl (Nat.le_of_ble_eq_true rfl) dX10_readFair_49) (c_X10_figure l (k + 2) _ _ _ _ n tx 1 hR hn60 hn ht h3 0 2 (by omega) (by decide)) (by omega) (by decide) ?_
      rintro _ F3 A _ _ ⟨rfl, hF3, rfl, rfl, rfl⟩
      by_cases hz1 : figP tx n 1 0 2 = -9
      · rw [if_pos hz1] at hF3
        rw [hF3]
        refine wp_top (x' := -9) hz1 ?_
        refine wp_putI fX10_122 fn_10_10 rfl (rfl) (by decide) dX10_readFair_52 ?_
        obtain ⟨F4, hF4⟩ : ∃ z, z = u2 F2 123 10 (-9) := ⟨_, rfl⟩
        rw [← hF4]
        have hs := hs.trans (show scN F2 A F4 A from by rw [hF4]; exact scN.F (by decide))
        have h3 : F4 123 3 = nI 1 := by rw [hF4]; simp [u2, va_up]; exact h3
        have h10 : F4 123 10 = (-9) := by rw [hF4, u2_row]; exact va_up_self _ _ _
        have hMr : isM F4 A 12 128 noB := isM_c hMr ⟨by rw [hF4]; simp [u2, va_up], by rw [hF4]; simp [u2, va_up], by rw [hF4]; simp [u2, va_up]⟩ ⟨rfl, rfl, rfl⟩
        have hn : F4 123 2 = nI n := by rw [hF4]; simp [u2, va_up]; exact hn
        refine wp_aload_n dX10_readFair_55 rfl 0 rfl ?_
        refine wp_aload_n dX10_readFair_56 rfl 0 rfl ?_
        refine wp_getI fX10_122 rfl (rfl) (by decide) dX10_readFair_57 ?_
        refine wp_top (x' := (-9)) (h10) ?_
        refine wp_bipush (v := (-9)) dX10_readFair_60 (by decide) ?_
        refine wp_icmp_ne 70 dX10_readFair_62 (by decide) (fun c3 => ?_) (fun c3 => ?_)
        · exact absurd rfl c3
        · refine wp_bipush (v := (-9)) dX10_readFair_65 (by decide) ?_
          refine wp_goto 77 dX10_readFair_67 (by decide) ?_
          refine wp_putI fX10_125 fn_10_11 rfl (rfl) (by decide) dX10_readFair_77 ?_
          obtain ⟨F6, hF6⟩ : ∃ z, z = u2 F4 123 11 (-9) := ⟨_, rfl⟩
          rw [← hF6]
          have hs := hs.trans (show scN F4 A F6 A from by rw [hF6]; exact scN.F (by decide))
          have h3 : F6 123 3 = nI 1 := by rw [hF6]; simp [u2, va_up]; exact h3
          have h11 : F6 123 11 = (-9) := by rw [hF6, u2_row]; exact va_up_self _ _ _
          have h10 : F6 123 10 = (-9) := by rw [hF6]; simp [u2, va_up]; exact h10
          have hMr : isM F6 A 12 128 noB := isM_c hMr ⟨by rw [hF6]; simp [u2, va_up], by rw [hF6]; simp [u2, va_up], by rw [hF6]; simp [u2, va_up]⟩ ⟨rfl, rfl, rfl⟩
          have hn : F6 123 2 = nI n := by rw [hF6]; simp [u2, va_up]; exact hn
          refine wp_aload_n dX10_readFair_80 rfl 0 rfl ?_
          refine wp_getI fX10_125 rfl (rfl) (by decide) dX10_readFair_81 ?_
          refine wp_top (x' := (-9)) (h11) ?_
          refine wp_bipush (v := (-9)) dX10_readFair_84 (by decide) ?_
          refine wp_icmp_ne 94 dX10_readFair_86 (by decide) (fun c4 => ?_) (fun c4 => ?_)
          · exact absurd rfl c4
          · refine wp_aload_n dX10_readFair_89 rfl 0 rfl ?_
            refine wp_getI fX10_90 rfl (rfl) (by decide) dX10_readFair_90 ?_
            refine wp_top (x' := nI (1)) (h3) ?_
            exact wp_iret hC rfl rfl dX10_readFair_93 (pI_ok (by rw [show readP tx n = (noB, 1) from by unfold readP letP; rw [if_pos (show 0 < n by omega), if_pos c2, if_pos hz1]]; exact ⟨rfl, hs, fun h => absurd h (by decide), rfl, rfl⟩))
      · rw [if_neg hz1] at hF3
        have hl := fig_lt (by decide) hz1
        have hs := hs.trans (show scN F2 A F3 A from by rw [hF3]; exact scN.F (by decide))
        have h3 : F3 123 3 = nI 2 := by rw [hF3, u2_row]; exact va_up_self _ _ _
        have hMr : isM F3 A 12 128 noB := isM_c hMr ⟨by rw [hF3]; simp [u2, va_up], by rw [hF3]; simp [u2, va_up], by rw [hF3]; simp [u2, va_up]⟩ ⟨rfl, rfl, rfl⟩
        have hn : F3 123 2 = nI n := by rw [hF3]; simp [u2, va_up]; exact hn
        refine wp_putI fX10_122 fn_10_10 rfl (rfl) (by decide) dX10_readFair_52 ?_
        obtain ⟨F4, hF4⟩ : ∃ z, z = u2 F3 123 10 (figP tx n 1 0 2) := ⟨_, rfl⟩
        rw [← hF4]
        have hs := hs.trans (show scN F3 A F4 A from by rw [hF4]; exact scN.F (by decide))
        have h3 : F4 123 3 = nI 2 := by rw [hF4]; simp [u2, va_up]; exact h3
        have h10 : F4 123 10 = (figP tx n 1 0 2) := by rw [hF4, u2_row]; exact va_up_self _ _ _
        have hMr : isM F4 A 12 128 noB := isM_c hMr ⟨by rw [hF4]; simp [u2, va_up], by rw [hF4]; simp [u2, va_up], by rw [hF4]; simp [u2, va_up]⟩ ⟨rfl, rfl, rfl⟩
        have hn : F4 123 2 = nI n := by rw [hF4]; simp [u2, va_up]; exact hn
        refine wp_aload_n dX10_readFair_55 rfl 0 rfl ?_
        refine wp_aload_n dX10_readFair_56 rfl 0 rfl ?_
        refine wp_getI fX10_122 rfl (rfl) (by decide) dX10_readFair_57 ?_
        refine wp_top (x' := figP tx n 1 0 2) (h10) ?_
        refine wp_bipush (v := (-9)) dX10_readFair_60 (by decide) ?_
        refine wp_icmp_ne 70 dX10_readFair_62 (by decide) (fun c5 => ?_) (fun c5 => ?_)
        · refine wp_aload_n dX10_readFair_70 rfl 0 rfl ?_
          refine wp_iconst (v := 0) dX10_readFair_71 (by decide) ?_
          refine wp_bipush (v := 9) dX10_readFair_72 (by decide) ?_
          refine wp_callI (mm_siteV (av := [.int 0, .int 9]) hC lX10_102 (rfl) (by decide) ⟨_, rfl, rfl⟩ rfl rfl (Nat.le_of_ble_eq_true rfl) dX10_readFair_74) (c_X10_figure l (k + 2) _ _ _ _ n tx 2 hR hn60 hn ht h3 0 9 (by omega) (by decide)) (by omega) (by decide) ?_
          rintro _ F5 A _ _ ⟨rfl, hF5, rfl, rfl, rfl⟩
          by_cases hz2 : figP tx n 2 0 9 = -9
          · rw [if_pos hz2] at hF5
            rw [hF5]
            refine wp_top (x' := -9) hz2 ?_
            refine wp_putI fX10_125 fn_10_11 rfl (rfl) (by decide) dX10_readFair_77 ?_
            obtain ⟨F6, hF6⟩ : ∃ z, z = u2 F4 123 11 (-9) := ⟨_, rfl⟩
            rw [← hF6]
            have hs := hs.trans (show scN F4 A F6 A from by rw [hF6]; exact scN.F (by decide))
            have h3 : F6 123 3 = nI 2 := by rw [hF6]; simp [u2, va_up]; exact h3
            have h11 : F6 123 11 = (-9) := by rw [hF6, u2_row]; exact va_up_self _ _ _
            have h10 : F6 123 10 = figP tx n 1 0 2 := by rw [hF6]; simp [u2, va_up]; exact h10
            have hMr : isM F6 A 12 128 noB := isM_c hMr ⟨by rw [hF6]; simp [u2, va_up], by rw [hF6]; simp [u2, va_up], by rw [hF6]; simp [u2, va_up]⟩ ⟨rfl, rfl, rfl⟩
            have hn : F6 123 2 = nI n := by rw [hF6]; simp [u2, va_up]; exact hn
            refine wp_aload_n dX10_readFair_80 rfl 0 rfl ?_
            refine wp_getI fX10_125 rfl (rfl) (by decide) dX10_readFair_81 ?_
            refine wp_top (x' := (-9)) (h11) ?_
            refine wp_bipush (v := (-9)) dX10_readFair_84 (by decide) ?_
            refine wp_icmp_ne 94 dX10_readFair_86 (by decide) (fun c6 => ?_) (fun c6 => ?_)
            · exact absurd rfl c6
            · refine wp_aload_n dX10_readFair_89 rfl 0 rfl ?_
              refine wp_getI fX10_90 rfl (rfl) (by decide) dX10_readFair_90 ?_
              refine wp_top (x' := nI (2)) (h3) ?_
              exact wp_iret hC rfl rfl dX10_readFair_93 (pI_ok (by rw [show readP tx n = (noB, 2) from by unfold readP letP; rw [if_pos (show 0 < n by omega), if_pos c2, if_neg hz1, if_pos hz2]]; exact ⟨rfl, hs, fun h => absurd h (by decide), rfl, rfl⟩))
          · rw [if_neg hz2] at hF5
            have hl := fig_lt (by decide) hz2
            have hs := hs.trans (show scN F4 A F5 A from by rw [hF5]; exact scN.F (by decide))
            have h3 : F5 123 3 = nI 3 := by rw [hF5, u2_row]; exact va_up_self _ _ _
            have h10 : F5 123 10 = figP tx n 1 0 2 := by rw [hF5]; simp [u2, va_up]; exact h10
            have hMr : isM F5 A 12 128 noB := isM_c hMr ⟨by rw [hF5]; simp [u2, va_up], by rw [hF5]; simp [u2, va_up], by rw [hF5]; simp [u2, va_up]⟩ ⟨rfl, rfl, rfl⟩
            have hn : F5 123 2 = nI n := by rw [hF5]; simp [u2, va_up]; exact hn
            refine wp_putI fX10_125 fn_10_11 rfl (rfl) (by decide) dX10_readFair_77 ?_
            obtain ⟨F6, hF6⟩ : ∃ z, z = u2 F5 123 11 (figP tx n 2 0 9) := ⟨_, rfl⟩
            rw [← hF6]
            have hs := hs.trans (show scN F5 A F6 A from by rw [hF6]; exact scN.F (by decide))
            have h3 : F6 123 3 = nI 3 := by rw [hF6]; simp [u2, va_up]; exact h3
            have h11 : F6 123 11 = (figP tx n 2 0 9) := by rw [hF6, u2_row]; exact va_up_self _ _ _
            have h10 : F6 123 10 = figP tx n 1 0 2 := by rw [hF6]; simp [u2, va_up]; exact h10
            have hMr : isM F6 A 12 128 noB := isM_c hMr ⟨by rw [hF6]; simp [u2, va_up], by rw [hF6]; simp [u2, va_up], by rw [hF6]; simp [u2, va_up]⟩ ⟨rfl, rfl, rfl⟩
            have hn : F6 123 2 = nI n := by rw [hF6]; simp [u2, va_up]; exact hn
            refine wp_aload_n dX10_readFair_80 rfl 0 rfl ?_
            refine wp_getI fX10_125 rfl (rfl) (by decide) dX10_readFair_81 ?_
            refine wp_top (x' := figP tx n 2 0 9) (h11) ?_
            refine wp_bipush (v := (-9)) dX10_readFair_84 (by decide) ?_
            refine wp_icmp_ne 94 dX10_readFair_86 (by decide) (fun c7 => ?_) (fun c7 => ?_)
            · have lp : ∀ (nn : Nat) (p f : Nat) (B : BV) (F7 A7 : mmF), (p ≤ 63) → (63 ≤ p + 4 * f) → (readP tx n = partsP tx n f p B) → (wfB B) → (isM F7 A7 12 128 B) → (F7 123 3 = nI p) → (F7 123 2 = nI n) → (∀ i, i < n → A7 124 i = tx i) → (F7 123 10 = figP tx n 1 0 2) → (F7 123 11 = figP tx n 2 0 9) → (scN F A F7 A7) → 100 - p < nn → WP hX10_readFair X 144 94 [(0, .ref 123)] [] F7 A7 R G := by
                intro nn
                induction nn with
                | zero => intro p f B F7 A7 _ _ _ _ _ _ _ _ _ _ _ hm; exact absurd hm (Nat.not_lt_zero _)
                | succ nn ih_lp =>
                  intro p f B F7 A7 hp hfu hv hwB hMr h3 hn ht h10 h11 hs hm_lp
                  refine wp_aload_n dX10_readFair_94 rfl 0 rfl ?_
                  refine wp_getI fX10_90 rfl (rfl) (by decide) dX10_readFair_95 ?_
                  refine wp_top (x' := nI (p)) (h3) ?_
                  refine wp_aload_n dX10_readFair_98 rfl 0 rfl ?_
                  refine wp_getI fX10_87 rfl (rfl) (by decide) dX10_readFair_99 ?_
                  refine wp_top (x' := nI n) (hn) ?_
                  refine wp_icmp_ge 117 dX10_readFair_102 (by decide) (fun c8 => ?_) (fun c8 => ?_)
                  · replace c8 := (ix_le (a := n) (b := p) (rfl) (rfl) (by omega) (by omega)).mp c8
                    refine wp_bipush (v := (-9)) dX10_readFair_117 (by decide) ?_
                    exact wp_iret hC rfl rfl dX10_readFair_119 (pI_ok (by rw [hv, partsP_end (by omega) f]; exact ⟨rfl, hs, fun _ => ⟨hMr, h10, h11⟩, rfl, rfl⟩))
                  · replace c8 := mt (ix_le (a := n) (b := p) (rfl) (rfl) (by omega) (by omega)).mpr c8
                    have hpn : p < n := by omega
                    refine wp_aload_n dX10_readFair_105 rfl 0 rfl ?_
                    refine wp_callI (mm_siteV (av := []) hC lX10_128 (rfl) (by decide) ⟨_, rfl, rfl⟩ rfl rfl (Nat.le_of_ble_eq_true rfl) dX10_readFair_106) (c_X10_readPart l k _ _ _ _ n tx p hR hn60 hn ht h3 B hMr hwB.1 hpn) (by omega) (by decide) ?_
                    rintro v F8 A8 _ _ ⟨hfr8, hif, rfl, rfl⟩
                    have hs := hs.trans hfr8.N
                    have hgo := partsP_go (tx := tx) (B := B) (f := f) hpn (by omega)
                    have ht : ∀ i, i < n → A8 124 i = tx i := by rw [hfr8.2.2 124 (by decide)]; exact ht
                    have hn : F8 123 2 = nI n := (hfr8.2.1 2 (by decide) (by decide) (by decide) (by decide)).trans hn
                    have h10 : F8 123 10 = figP tx n 1 0 2 := (hfr8.2.1 10 (by decide) (by decide) (by decide) (by decide)).trans h10
                    have h11 : F8 123 11 = figP tx n 2 0 9 := (hfr8.2.1 11 (by decide) (by decide) (by decide) (by decide)).trans h11
                    by_cases hz : (readQP tx n B p).2 = -9
                    · rw [if_pos hz] at hif hgo
                      obtain ⟨rfl, h3, hMr⟩ := hif
                      refine wp_if_ne 94 dX10_readFair_109 (by decide) (fun c9 => ?_) (fun c9 => ?_)
                      · exact ih_lp (p + 4) (f - 1) _ F8 A8 (by omega) (by omega) (by rw [hv, hgo]) (wfB_readQ hwB) hMr h3 hn ht h10 h11 hs (by omega)
                      · exact absurd c9 (by decide)
                    · rw [if_neg hz] at hif hgo
                      obtain ⟨rfl, h3⟩ := hif
                      refine wp_if_ne 94 dX10_readFair_109 (by decide) (fun c10 => ?_) (fun c10 => ?_)
                      · exact absurd (by decide) c10
                      · refine wp_aload_n dX10_readFair_112 rfl 0 rfl ?_
                        refine wp_getI fX10_90 rfl (rfl) (by decide) dX10_readFair_113 ?_
                        refine wp_top (x' := (readQP tx n B p).2) (h3) ?_
                        exact wp_iret hC rfl rfl dX10_readFair_116 (pI_ok (by rw [hv, hgo]; exact ⟨rfl, hs, fun h => absurd h hz, rfl, rfl⟩))
              exact lp (100 + 1) 3 60 noB F6 A (by decide) (by decide) (by unfold readP letP; rw [if_pos (show 0 < n by omega), if_pos c2, if_neg hz1, if_neg hz2]) wfB_no hMr h3 hn ht h10 h11 hs (by omega)
            · exact absurd c7 hz2
        · exact absurd c5 hz1
    · refine wp_iconst (v := 0) dX10_readFair_38 (by decide) ?_
      exact wp_iret hC rfl rfl dX10_readFair_39 (pI_ok (by rw [show readP tx n = (noB, 0) from by unfold readP letP; (first | rw [if_neg (show ¬ 0 < n by omega), if_neg (by decide)] | rw [if_pos (show 0 < n by omega), if_neg c2])]; exact ⟨rfl, hs, fun h => absurd h (by decide), rfl, rfl⟩))

