theorem cost_0 {B : BV} {S : SV} {t : Nat} : costP B S t 0 = (S, 0) := by unfold costP; rw [if_pos rfl]
theorem cost_no {B : BV} {S : SV} {t a : Nat} (h0 : ¬ a ≤ 0) (ha : a ≤ B.1.1) (hc : canB B S t (a - 1) = 0) : costP B S t a = (S, 0) := by unfold costP; rw [if_neg (by omega), if_pos (by omega), if_pos hc]
theorem cost_yes {B : BV} {S : SV} {t a : Nat} (h0 : ¬ a ≤ 0) (ha : a ≤ B.1.1) (hc : ¬ canB B S t (a - 1) = 0) : costP B S t a = ((strikeP B S t (a - 1)).1, 1) := by unfold costP; rw [if_neg (by omega), if_pos (by omega), if_neg hc]
theorem cost_keep {B : BV} {S : SV} {t a : Nat} (hw : wfB B) (hd : dn S) (hk : ∀ h, h < B.1.1 → bt (S.2.2 3) (nI h) = 0 ∨ B.2 3 h = 3) : dn (costP B S t a).1 ∧ ∀ h, h < B.1.1 → bt ((costP B S t a).1.2.2 3) (nI h) = 0 ∨ B.2 3 h = 3 := by
  have hw1 := hw.1
  unfold costP
  by_cases a1 : a = 0
  · rw [if_pos a1]; exact ⟨hd, hk⟩
  · rw [if_neg a1]
    by_cases a2 : a - 1 < B.1.1
    · rw [if_pos a2]
      by_cases a3 : canB B S t (a - 1) = 0
      · rw [if_pos a3]; exact ⟨hd, hk⟩
      · rw [if_neg a3]; exact ⟨dn_strike hw (by omega) hd, strike_3 (by omega) hw1.1 hk⟩
    · rw [if_neg a2]; exact ⟨hd, hk⟩
def pairF (D : Int32) (q : Int32 × Int32) (h : Nat) : Int32 × Int32 := if upP D (nI h) = 0 then (q.1 + (nI h + 1), q.2 + (5 - nI h)) else q
theorem pairW_F {B : BV} {S : SV} {a b : Nat} : pairW B S a b = (List.range' 0 B.1.1).foldl (pairF ((pairS B S a b).2.2 2)) (-(costP B S 0 a).2, -(costP B (costP B S 0 a).1 1 b).2) := rfl
set_option maxRecDepth 100000 in
set_option maxHeartbeats 600000 in
theorem c_X10_layWorth (l : Launch) (k : Nat) (F A : mmF) (R : mmR) (G : mmG) (a b : Nat) (S : SV) (B : BV) (hR : mm_RL R) (hM : isM F A 4 125 B) (hw : wfB B) (hP : isP A 131 S) (hd : dn S) (hkS : ∀ h, h < B.1.1 → bt (S.2.2 3) (nI h) = 0 ∨ B.2 3 h = 3) (ha : a ≤ B.1.1) (hb : b ≤ B.1.1) (h2 : 2 ≤ B.1.2.1) : Meets l hX10_layWorth (k + 4) 144 144 [.ref 123, .int (nI a), .int (nI b)] F A R G (pV (fun F1 A1 R1 G1 => A1 142 = va_up (va_up (A 142) (2 * (6 * a + b)) (pairW B S a b).1) (2 * (6 * a + b) + 1) (pairW B S a b).2 ∧ frG 30 30 142 F A F1 A1 ∧ R = R1 ∧ G = G1)) := by
  refine mm_start rfl (Nat.le_of_ble_eq_true rfl) (fun X hC => ?_)
  show WP hX10_layWorth X 144 0 [(0, .ref 123), (1, .int (nI a)), (2, .int (nI b))] [] F A R G
  have hw1 := hw.1
  have hMc := hM
  have hk1 := cost_keep (t := 0) (a := a) hw hd hkS
  obtain ⟨k0, hk0⟩ : ∃ k0, k0 = k := ⟨_, rfl⟩
  refine wp_aload_n dX10_layWorth_0 rfl 0 rfl ?_
  refine wp_getO (q := 131) fX10_31 hR rfl (rfl) (by decide) (by decide) rfl dX10_layWorth_1 ?_
  refine wp_aload_n dX10_layWorth_4 rfl 0 rfl ?_
  refine wp_getO (q := 132) fX10_34 hR rfl (rfl) (by decide) (by decide) rfl dX10_layWorth_5 ?_
  refine wp_bipush (v := 15) dX10_layWorth_8 (by decide) ?_
  refine wp_callV (mm_siteS (av := [.ref 131, .ref 132, .int 15]) hC lX10_137 rfl rfl (Nat.le_of_ble_eq_true rfl) dX10_layWorth_10) (c_X10_copyRow l (k0 + 3) _ _ _ _ 131 132 15 rfl (by decide) (by decide) rfl (by decide) (by decide) (by decide) (by decide)) (by omega) (by decide) (by decide) ?_
  rintro F A6 _ _ ⟨rfl, hc6, hr6, rfl, rfl⟩
  have hT0 : isP A6 132 S := fun k hk => (hc6 k hk).trans (hP k hk)
  have hf0 : frP 132 F A F A6 := ⟨fun _ _ => rfl, fun _ _ => rfl, fun r h _ _ => hr6 r h⟩
  have hMc := hf0.m (Or.inr (Or.inl rfl)) hM
  have j33 : ∀ (F1 A1 : mmF), isP A1 132 (costP B S 0 a).1 → frP 132 F A F1 A1 → WP hX10_layWorth X 144 33 [(0, .ref 123), (1, .int (nI a)), (2, .int (nI b))] [.int (-(costP B S 0 a).2)] F1 A1 R G := by
    intro F1 A1 hT1 hf1
    have hMc := hf1.m (Or.inr (Or.inl rfl)) hM
    refine wp_istore_n [1, 2, 3, 0] (by decide) rfl rfl rfl dX10_layWorth_33 rfl ?_
    have j54 : ∀ (F1 A1 : mmF), isP A1 132 (costP B (costP B S 0 a).1 1 b).1 → frP 132 F A F1 A1 → WP hX10_layWorth X 144 54 [(0, .ref 123), (1, .int (nI a)), (2, .int (nI b)), (3, .int (-(costP B S 0 a).2))] [.int (-(costP B (costP B S 0 a).1 1 b).2)] F1 A1 R G := by
      intro F1 A1 hT1 hf1
      have hMc := hf1.m (Or.inr (Or.inl rfl)) hM
      refine wp_istore [1, 2, 3, 4, 0] (by decide) rfl rfl rfl dX10_layWorth_54 ?_
      refine wp_iconst (v := 0) dX10_layWorth_56 (by decide) ?_
      refine wp_istore [1, 2, 3, 4, 5, 0] (by decide) rfl rfl rfl dX10_layWorth_57 ?_
      have lp : ∀ (nn : Nat) (h : Nat) (q r : Int32), (h ≤ B.1.1) → (pairW B S a b = (List.range' h (B.1.1 - h)).foldl (pairF ((pairS B S a b).2.2 2)) (q, r)) → B.1.1 - h < nn → WP hX10_layWorth X 144 59 [(0, .ref 123), (1, .int (nI a)), (2, .int (nI b)), (3, .int q), (4, .int r), (5, .int (nI h))] [] F1 A1 R G := by
        intro nn
        induction nn with
        | zero => intro h q r _ _ hm; exact absurd hm (Nat.not_lt_zero _)
        | succ nn ih_lp =>
          intro h q r hh hv hm_lp
          refine wp_iload dX10_layWorth_59 5 rfl ?_
          refine wp_aload_n dX10_layWorth_61 rfl 0 rfl ?_
          refine wp_getI fX10_75 rfl (rfl) (by decide) dX10_layWorth_62 ?_
          refine wp_top (x' := nI B.1.1) (hMc.1) ?_
          refine wp_icmp_ge 128 dX10_layWorth_65 (by decide) (fun c1 => ?_) (fun c1 => ?_)
          · replace c1 := (ix_le (a := B.1.1) (b := h) (rfl) (rfl) (by omega) (by omega)).mp c1
            have hvq : pairW B S a b = (q, r) := by rw [hv, show B.1.1 - h = 0 by omega]; exact List.foldl_nil
            refine wp_aload_n dX10_layWorth_128 rfl 0 rfl ?_
            refine wp_getO (q := 142) fX10_65 hR rfl (rfl) (by decide) (by decide) rfl dX10_layWorth_129 ?_
            refine wp_iconst (v := 2) dX10_layWorth_132 (by decide) ?_
            refine wp_bipush (v := 6) dX10_layWorth_133 (by decide) ?_
            refine wp_iload_n dX10_layWorth_135 rfl 1 rfl ?_
            refine wp_imul dX10_layWorth_136 ?_
            refine wp_iload_n dX10_layWorth_137 rfl 2 rfl ?_
            refine wp_iadd dX10_layWorth_138 ?_
            refine wp_imul dX10_layWorth_139 ?_
            refine wp_iload_n dX10_layWorth_140 rfl 3 rfl ?_
            refine wp_iast (2 * ((6 * a) + b)) (ix_mul rfl (ix_add (ix_mul rfl rfl) rfl)) (rfl) (by decide) ((show 2 * ((6 * a) + b) < 72 from by omega)) dX10_layWorth_141 ?_
            refine wp_aload_n dX10_layWorth_142 rfl 0 rfl ?_
            refine wp_getO (q := 142) fX10_65 hR rfl (rfl) (by decide) (by decide) rfl dX10_layWorth_143 ?_
            refine wp_iconst (v := 2) dX10_layWorth_146 (by decide) ?_
            refine wp_bipush (v := 6) dX10_layWorth_147 (by decide) ?_
            refine wp_iload_n dX10_layWorth_149 rfl 1 rfl ?_
            refine wp_imul dX10_layWorth_150 ?_
            refine wp_iload_n dX10_layWorth_151 rfl 2 rfl ?_
            refine wp_iadd dX10_layWorth_152 ?_
            refine wp_imul dX10_layWorth_153 ?_
            refine wp_iconst (v := 1) dX10_layWorth_154 (by decide) ?_
            refine wp_iadd dX10_layWorth_155 ?_
            refine wp_iload dX10_layWorth_156 4 rfl ?_
            refine wp_iast ((2 * ((6 * a) + b)) + 1) (ix_add (ix_mul rfl (ix_add (ix_mul rfl rfl) rfl)) rfl) (rfl) (by decide) ((show (2 * ((6 * a) + b)) + 1 < 72 from by omega)) dX10_layWorth_158 ?_
            exact wp_vret hC rfl dX10_layWorth_159 (pV_ok ⟨by rw [u2_row, u2_row, hf1.2.2 142 (by decide) (by decide) (by decide), hvq], (hf1.G 30 30 142).trans ((frG.A (r0 := 142) (Or.inr rfl) (fun r hr => u2_ne hr)).trans (frG.A (r0 := 142) (Or.inr rfl) (fun r hr => u2_ne hr))), rfl, rfl⟩)
          · replace c1 := mt (ix_le (a := B.1.1) (b := h) (rfl) (rfl) (by omega) (by omega)).mpr c1
            refine wp_iload_n dX10_layWorth_68 rfl 3 rfl ?_
            refine wp_aload_n dX10_layWorth_69 rfl 0 rfl ?_
            refine wp_getO (q := 132) fX10_34 hR rfl (rfl) (by decide) (by decide) rfl dX10_layWorth_70 ?_
            refine wp_bipush (v := 12) dX10_layWorth_73 (by decide) ?_
            refine wp_iald 12 (rfl) (rfl) (by decide) ((show 12 < 15 from by omega)) dX10_layWorth_75 ?_
            refine wp_top (x' := ((pairS B S a b).2.2 2)) ((hT1 12 (by decide))) ?_
            refine wp_iload dX10_layWorth_76 5 rfl ?_
            refine wp_callP (e := bt ((pairS B S a b).2.2 2) (nI h)) (mm_siteS (av := [.int ((pairS B S a b).2.2 2), .int (nI h)]) hC lX10_144 rfl rfl (Nat.le_of_ble_eq_true rfl) dX10_layWorth_78) (c_X10_has l (k0 + 3) _ _ _ _ ((pairS B S a b).2.2 2) (nI h)) (by omega) (by decide) ?_
            refine wp_if_eq 91 dX10_layWorth_81 (by decide) (fun c2 => ?_) (fun c2 => ?_)
            · refine wp_iconst (v := 0) dX10_layWorth_91 (by decide) ?_
              refine wp_iadd dX10_layWorth_92 ?_
              refine wp_istore_n [1, 2, 3, 0, 5, 6] (by decide) rfl rfl rfl dX10_layWorth_93 rfl ?_
              refine wp_iload dX10_layWorth_94 4 rfl ?_
              refine wp_aload_n dX10_layWorth_96 rfl 0 rfl ?_
              refine wp_getO (q := 132) fX10_34 hR rfl (rfl) (by decide) (by decide) rfl dX10_layWorth_97 ?_
              refine wp_bipush (v := 12) dX10_layWorth_100 (by decide) ?_
              refine wp_iald 12 (rfl) (rfl) (by decide) ((show 12 < 15 from by omega)) dX10_layWorth_102 ?_
              refine wp_top (x' := ((pairS B S a b).2.2 2)) ((hT1 12 (by decide))) ?_
              refine wp_iload dX10_layWorth_103 5 rfl ?_
              refine wp_callP (e := bt ((pairS B S a b).2.2 2) (nI h)) (mm_siteS (av := [.int ((pairS B S a b).2.2 2), .int (nI h)]) hC lX10_144 rfl rfl (Nat.le_of_ble_eq_true rfl) dX10_layWorth_105) (c_X10_has l (k0 + 3) _ _ _ _ ((pairS B S a b).2.2 2) (nI h)) (by omega) (by decide) ?_
              refine wp_if_eq 118 dX10_layWorth_108 (by decide) (fun c3 => ?_) (fun c3 => ?_)
              · refine wp_iconst (v := 0) dX10_layWorth_118 (by decide) ?_
                refine wp_iadd dX10_layWorth_119 ?_
                refine wp_istore [1, 2, 3, 4, 0, 6] (by decide) rfl rfl rfl dX10_layWorth_120 ?_
                refine wp_iinc (v := nI (h + 1)) 5 rfl (by exact nI_1 h) [1, 2, 3, 4, 5, 0] (by decide) rfl rfl rfl dX10_layWorth_122 ?_
                refine wp_goto 59 dX10_layWorth_125 (by decide) ?_
                exact ih_lp (h + 1) (q + 0) (r + 0) (by omega) (by rw [hv, foldl_go (by omega), pairF, if_neg (by rw [up_bt]; exact fun hz => hz c2), Int32.add_zero, Int32.add_zero]) (by omega)
              · exact absurd c2 c3
            · refine wp_iload dX10_layWorth_84 5 rfl ?_
              refine wp_iconst (v := 1) dX10_layWorth_86 (by decide) ?_
              refine wp_iadd dX10_layWorth_87 ?_
              refine wp_goto 92 dX10_layWorth_88 (by decide) ?_
              refine wp_iadd dX10_layWorth_92 ?_
              refine wp_istore_n [1, 2, 3, 0, 5, 6] (by decide) rfl rfl rfl dX10_layWorth_93 rfl ?_
              refine wp_iload dX10_layWorth_94 4 rfl ?_
              refine wp_aload_n dX10_layWorth_96 rfl 0 rfl ?_
              refine wp_getO (q := 132) fX10_34 hR rfl (rfl) (by decide) (by decide) rfl dX10_layWorth_97 ?_
              refine wp_bipush (v := 12) dX10_layWorth_100 (by decide) ?_
              refine wp_iald 12 (rfl) (rfl) (by decide) ((show 12 < 15 from by omega)) dX10_layWorth_102 ?_
              refine wp_top (x' := ((pairS B S a b).2.2 2)) ((hT1 12 (by decide))) ?_
              refine wp_iload dX10_layWorth_103 5 rfl ?_
              refine wp_callP (e := bt ((pairS B S a b).2.2 2) (nI h)) (mm_siteS (av := [.int ((pairS B S a b).2.2 2), .int (nI h)]) hC lX10_144 rfl rfl (Nat.le_of_ble_eq_true rfl) dX10_layWorth_105) (c_X10_has l (k0 + 3) _ _ _ _ ((pairS B S a b).2.2 2) (nI h)) (by omega) (by decide) ?_
              refine wp_if_eq 118 dX10_layWorth_108 (by decide) (fun c4 => ?_) (fun c4 => ?_)
              · exact absurd c4 c2
              · refine wp_iconst (v := 5) dX10_layWorth_111 (by decide) ?_
                refine wp_iload dX10_layWorth_112 5 rfl ?_
                refine wp_isub dX10_layWorth_114 ?_
                refine wp_goto 119 dX10_layWorth_115 (by decide) ?_
                refine wp_iadd dX10_layWorth_119 ?_
                refine wp_istore [1, 2, 3, 4, 0, 6] (by decide) rfl rfl rfl dX10_layWorth_120 ?_
                refine wp_iinc (v := nI (h + 1)) 5 rfl (by exact nI_1 h) [1, 2, 3, 4, 5, 0] (by decide) rfl rfl rfl dX10_layWorth_122 ?_
                refine wp_goto 59 dX10_layWorth_125 (by decide) ?_
                exact ih_lp (h + 1) (q + (nI h + 1)) (r + (5 - nI h)) (by omega) (by rw [hv, foldl_go (by omega), pairF, if_pos (up_bt.mpr c2)]) (by omega)
      exact lp (B.1.1 + 1) 0 _ _ (Nat.zero_le _) pairW_F (by omega)
    refine wp_iload_n dX10_layWorth_34 rfl 2 rfl ?_
    refine wp_if_le 53 dX10_layWorth_35 (by decide) (fun c5 => ?_) (fun c5 => ?_)
    · replace c5 := (ix_le (a := b) (b := 0) (rfl) (rfl) (by omega) (by omega)).mp c5
      refine wp_iconst (v := 0) dX10_layWorth_53 (by decide) ?_
      refine wp_top (x' := -(costP B (costP B S 0 a).1 1 b).2) (by first | (rw [show b = 0 by omega, cost_0]; done) | (rw [show b = 0 by omega, cost_0]; exact (by decide : (0 : Int32) = -0))) ?_
      exact j54 F1 A1 (by rw [show b = 0 by omega, cost_0]; exact hT1) hf1
    · replace c5 := mt (ix_le (a := b) (b := 0) (rfl) (rfl) (by omega) (by omega)).mpr c5
      refine wp_aload_n dX10_layWorth_38 rfl 0 rfl ?_
      refine wp_iconst (v := 1) dX10_layWorth_39 (by decide) ?_
      refine wp_iload_n dX10_layWorth_40 rfl 2 rfl ?_
      refine wp_iconst (v := 1) dX10_layWorth_41 (by decide) ?_
      refine wp_isub dX10_layWorth_42 ?_
      refine wp_top (x' := nI (b - 1)) (ix_sub (a := b) (b := 1) rfl rfl (by omega)) ?_
      refine wp_callI (mm_siteV (av := [.int 1, .int (nI (b - 1))]) hC lX10_215 (rfl) (by decide) ⟨_, rfl, rfl⟩ rfl rfl (Nat.le_of_ble_eq_true rfl) dX10_layWorth_43) (c_X10_throwsAt l k0 _ _ _ _ 1 (b - 1) (costP B S 0 a).1 B hR hMc hw hT1 hk1.1 hk1.2 (by omega) (by omega)) (by omega) (by decide) ?_
      rintro _ F5 A5 _ _ ⟨rfl, hT5, hp5, rfl, rfl⟩
      by_cases hc : canB B (costP B S 0 a).1 1 (b - 1) = 0
      · rw [thrS, if_pos hc] at hT5
        refine wp_top (x' := 0) (if_pos hc) ?_
        refine wp_if_eq 53 dX10_layWorth_46 (by decide) (fun c6 => ?_) (fun c6 => ?_)
        · refine wp_iconst (v := 0) dX10_layWorth_53 (by decide) ?_
          refine wp_top (x' := -(costP B (costP B S 0 a).1 1 b).2) (by first | (rw [cost_no c5 hb hc]; done) | (rw [cost_no c5 hb hc]; exact (by decide : (0 : Int32) = -0))) ?_
          exact j54 F5 A5 (by rw [cost_no c5 hb hc]; exact hT5) (hf1.trans hp5)
        · exact absurd (by decide) c6
      · rw [thrS, if_neg hc] at hT5
        refine wp_top (x' := 1) (if_neg hc) ?_
        refine wp_if_eq 53 dX10_layWorth_46 (by decide) (fun c7 => ?_) (fun c7 => ?_)
        · exact absurd c7 (by decide)
        · refine wp_iconst (v := (-1)) dX10_layWorth_49 (by decide) ?_
          refine wp_goto 54 dX10_layWorth_50 (by decide) ?_
          refine wp_top (x' := -(costP B (costP B S 0 a).1 1 b).2) (by first | (rw [cost_yes c5 hb hc]; done) | (rw [cost_yes c5 hb hc]; exact (by decide : (0 : Int32) = -0))) ?_
          exact j54 F5 A5 (by rw [cost_yes c5 hb hc]; exact hT5) (hf1.trans hp5)
  refine wp_iload_n dX10_layWorth_13 rfl 1 rfl ?_
  refine wp_if_le 32 dX10_layWorth_14 (by decide) (fun c8 => ?_) (fun c8 => ?_)
  · replace c8 := (ix_le (a := a) (b := 0) (rfl) (rfl) (by omega) (by omega)).mp c8
    refine wp_iconst (v := 0) dX10_layWorth_32 (by decide) ?_
    refine wp_top (x' := -(costP B S 0 a).2) (by first | (rw [show a = 0 by omega, cost_0]; done) | (rw [show a = 0 by omega, cost_0]; exact (by decide : (0 : Int32) = -0))) ?_
    exact j33 F A6 (by rw [show a = 0 by omega, cost_0]; exact hT0) hf0
  · replace c8 := mt (ix_le (a := a) (b := 0) (rfl) (rfl) (by omega) (by omega)).mpr c8
    refine wp_aload_n dX10_layWorth_17 rfl 0 rfl ?_
    refine wp_iconst (v := 0) dX10_layWorth_18 (by decide) ?_
    refine wp_iload_n dX10_layWorth_19 rfl 1 rfl ?_
    refine wp_iconst (v := 1) dX10_layWorth_20 (by decide) ?_
    refine wp_isub dX10_layWorth_21 ?_
    refine wp_top (x' := nI (a - 1)) (ix_sub (a := a) (b := 1) rfl rfl (by omega)) ?_
    refine wp_callI (mm_siteV (av := [.int 0, .int (nI (a - 1))]) hC lX10_215 (rfl) (by decide) ⟨_, rfl, rfl⟩ rfl rfl (Nat.le_of_ble_eq_true rfl) dX10_layWorth_22) (c_X10_throwsAt l k0 _ _ _ _ 0 (a - 1) S B hR hMc hw hT0 hd hkS (by omega) (by omega)) (by omega) (by decide) ?_
    rintro _ F5 A5 _ _ ⟨rfl, hT5, hp5, rfl, rfl⟩
    by_cases hc : canB B S 0 (a - 1) = 0
    · rw [thrS, if_pos hc] at hT5
      refine wp_top (x' := 0) (if_pos hc) ?_
      refine wp_if_eq 32 dX10_layWorth_25 (by decide) (fun c9 => ?_) (fun c9 => ?_)
      · refine wp_iconst (v := 0) dX10_layWorth_32 (by decide) ?_
        refine wp_top (x' := -(costP B S 0 a).2) (by first | (rw [cost_no c8 ha hc]; done) | (rw [cost_no c8 ha hc]; exact (by decide : (0 : Int32) = -0))) ?_
        exact j33 F5 A5 (by rw [cost_no c8 ha hc]; exact hT5) (hf0.trans hp5)
      · exact absurd (by decide) c9
    · rw [thrS, if_neg hc] at hT5
      refine wp_top (x' := 1) (if_neg hc) ?_
      refine wp_if_eq 32 dX10_layWorth_25 (by decide) (fun c10 => ?_) (fun c10 => ?_)
      · exact absurd c10 (by decide)
      · refine wp_iconst (v := (-1)) dX10_layWorth_28 (by decide) ?_
        refine wp_goto 33 dX10_layWorth_29 (by decide) ?_
        refine wp_top (x' := -(costP B S 0 a).2) (by first | (rw [cost_yes c8 ha hc]; done) | (rw [cost_yes c8 ha hc]; exact (by decide : (0 : Int32) = -0))) ?_
        exact j33 F5 A5 (by rw [cost_yes c8 ha hc]; exact hT5) (hf0.trans hp5)

