theorem or0 : ∀ h, h < 5 → (0 : Int32) ||| sh h = nI (2 ^ h) := by decide +kernel
theorem bc_pw : ∀ h, h < 5 → bc (2 ^ h) = 1 ∧ 2 ^ h < 32 := by decide +kernel
theorem kind01 {B : BV} {k : Nat} (hw : wfB B) (hk : k < B.1.2.2) : B.2 9 k = 0 ∨ B.2 9 k = 1 := by
  obtain ⟨-, -, c, hc, e⟩ := hw.2.2.2.1 k hk
  rcases (show c = 0 ∨ c = 1 by omega) with rfl | rfl
  · exact Or.inl e
  · exact Or.inr e
theorem pg_ne {p : Nat} (hp : pg p) : p ≠ 140 ∧ p ≠ 141 ∧ p ≠ 125 ∧ p ≠ 126 ∧ p ≠ 127 ∧ p ≠ 123 := by rcases hp with rfl | rfl | rfl <;> decide
theorem frP.F {p : Nat} {F A : mmF} {v : Int32} : frP p F A (u2 F 123 30 v) A := ⟨fun r hr => u2_ne hr, fun j hj => by rw [u2_row, va_up_ne _ _ hj], fun _ _ _ _ => rfl⟩
theorem frP.A {p r0 i : Nat} {F A : mmF} {v : Int32} (h : r0 = p ∨ r0 = 140 ∨ r0 = 141) : frP p F A F (u2 A r0 i v) := ⟨fun r hr => rfl, fun j hj => rfl, fun r h1 h2 h3 => u2_ne (by omega)⟩
set_option maxHeartbeats 2000000 in
set_option maxRecDepth 100000 in
set_option maxHeartbeats 600000 in
theorem c_X10_fall (l : Launch) (k : Nat) (F A : mmF) (R : mmR) (G : mmG) (p h0 : Nat) (S : SV) (B : BV) (hR : mm_RL R) (hp : pg p) (hM : isM F A 4 125 B) (hw : wfB B) (hP : isP A p S) (hd : dn S) (hh0 : h0 < 5) (h30 : F 123 30 = 0) : Meets l hX10_fall (k + 1) 144 144 [.ref 123, .ref p, .int (nI h0)] F A R G (pV (fun F1 A1 R1 G1 => isP A1 p (fallP B 5 S h0 0).1 ∧ F1 123 30 = (fallP B 5 S h0 0).2 ∧ frP p F A F1 A1 ∧ R = R1 ∧ G = G1)) := by
  refine mm_start rfl (Nat.le_of_ble_eq_true rfl) (fun X hC => ?_)
  show WP hX10_fall X 144 0 [(0, .ref 123), (1, .ref p), (2, .int (nI h0))] [] F A R G
  have hw1 := hw.1
  have hM0 := hM
  have hpn := pg_ne hp
  have hbp := bc_pw h0 hh0
  obtain ⟨k0, hk00⟩ : ∃ k0, k0 = k := ⟨_, rfl⟩
  have hdS1 : dn (S.1, S.2.1, va_up S.2.2 2 (S.2.2 2 ||| sh h0)) := by obtain ⟨n, hn, e⟩ := hd; obtain ⟨q, h1, h2⟩ := dn_or (h := h0) hn hh0; exact ⟨q, h1, by simp only [va_up_self]; rw [e]; exact h2⟩
  refine wp_aload_n dX10_fall_0 rfl 1 rfl ?_
  refine wp_bipush (v := 12) dX10_fall_1 (by decide) ?_
  refine wp_dup2 dX10_fall_3 rfl rfl ?_
  refine wp_iald 12 (rfl) (pg_k hp) (pg_l hp) (pg_i hp (by omega)) dX10_fall_4 ?_
  refine wp_top (x' := S.2.2 2) (hP 12 (by decide)) ?_
  refine wp_iconst (v := 1) dX10_fall_5 (by decide) ?_
  refine wp_iload_n dX10_fall_6 rfl 2 rfl ?_
  refine wp_ishl dX10_fall_7 ?_
  refine wp_ior dX10_fall_8 ?_
  refine wp_iast 12 (rfl) (pg_k hp) (pg_l hp) (pg_i hp (by omega)) dX10_fall_9 ?_
  obtain ⟨A2, hA2⟩ : ∃ z, z = u2 A p 12 ((S.2.2 2) ||| (1 <<< ((nI h0) &&& 31))) := ⟨_, rfl⟩
  rw [← hA2]
  have hP2 : isP A2 p (S.1, S.2.1, va_up S.2.2 2 (S.2.2 2 ||| sh h0)) := by rw [hA2]; exact isP_12 hP
  have hfr2 : frP p F A F A2 := by rw [hA2]; exact frP.A (Or.inl rfl)
  refine wp_aload_n dX10_fall_10 rfl 0 rfl ?_
  refine wp_dup dX10_fall_11 rfl ?_
  refine wp_getI fX10_152 rfl (rfl) (by decide) dX10_fall_12 ?_
  refine wp_top (x' := (0 : Int32)) (h30) ?_
  refine wp_iconst (v := 1) dX10_fall_15 (by decide) ?_
  refine wp_iload_n dX10_fall_16 rfl 2 rfl ?_
  refine wp_ishl dX10_fall_17 ?_
  refine wp_ior dX10_fall_18 ?_
  refine wp_putI fX10_152 fn_10_30 rfl (rfl) (by decide) dX10_fall_19 ?_
  obtain ⟨F2, hF2⟩ : ∃ z, z = u2 F 123 30 ((0 : Int32) ||| (1 <<< ((nI h0) &&& 31))) := ⟨_, rfl⟩
  rw [← hF2]
  have hfl0 : F2 123 30 = nI (2 ^ h0) := by rw [hF2, u2_row, va_up_self]; exact or0 h0 hh0
  have hfr2 := hfr2.trans (show frP p F A2 F2 A2 from by rw [hF2]; exact frP.F)
  refine wp_aload_n dX10_fall_22 rfl 0 rfl ?_
  refine wp_getO (q := 140) fX10_59 hR rfl (rfl) (by decide) (by decide) rfl dX10_fall_23 ?_
  refine wp_iconst (v := 0) dX10_fall_26 (by decide) ?_
  refine wp_iload_n dX10_fall_27 rfl 2 rfl ?_
  refine wp_iast 0 (rfl) (rfl) (by decide) ((show 0 < 6 from by omega)) dX10_fall_28 ?_
  refine wp_aload_n dX10_fall_29 rfl 0 rfl ?_
  refine wp_getO (q := 141) fX10_62 hR rfl (rfl) (by decide) (by decide) rfl dX10_fall_30 ?_
  refine wp_iconst (v := 0) dX10_fall_33 (by decide) ?_
  refine wp_iconst (v := 0) dX10_fall_34 (by decide) ?_
  refine wp_iast 0 (rfl) (rfl) (by decide) ((show 0 < 6 from by omega)) dX10_fall_35 ?_
  obtain ⟨A3, hA3⟩ : ∃ z, z = u2 (u2 A2 140 0 (nI h0)) 141 0 0 := ⟨_, rfl⟩
  rw [← hA3]
  have hst0 : stk A3 [(h0, 0)] := ⟨by rw [hA3, u2_ne (by decide), u2_row]; exact va_up_self _ _ _, by rw [hA3, u2_row]; exact va_up_self _ _ _, trivial⟩
  have hP3 : isP A3 p (S.1, S.2.1, va_up S.2.2 2 (S.2.2 2 ||| sh h0)) := isP_c hP2 (by rw [hA3, u2_ne hpn.2.1, u2_ne hpn.1])
  have hfr3 : frP p F A F2 A3 := hfr2.trans (show frP p F2 A2 F2 A3 from by rw [hA3]; exact (frP.A (Or.inr (Or.inl rfl))).trans (frP.A (Or.inr (Or.inr rfl))))
  refine wp_iconst (v := 0) dX10_fall_36 (by decide) ?_
  refine wp_top (x' := tp [(h0, 0)]) ((tp_c (h0, 0) []).symm) ?_
  refine wp_istore_n [1, 2, 3, 0] (by decide) rfl rfl rfl dX10_fall_37 rfl ?_
  have lp : ∀ (nn : Nat) (st : List (Nat × Nat)) (T : SV) (f μ : Nat) (F1 A1 : mmF), (stk A1 st) → (∀ q ∈ st, q.2 ≤ B.1.2.2) → (st.length ≤ bc f) → (f < 32) → (fallP B 5 S h0 0 = unw B st (T, nI f)) → (isP A1 p T) → (dn T) → (F1 123 30 = nI f) → (frP p F A F1 A1) → (stM B.1.2.2 st + (5 - bc f) * 6 ≤ μ) → μ < nn → WP hX10_fall X 144 38 [(0, .ref 123), (1, .ref p), (2, .int (nI h0)), (3, .int (tp st))] [] F1 A1 R G := by
    intro nn
    induction nn with
    | zero => intro st T f μ F1 A1 _ _ _ _ _ _ _ _ _ _ hm; exact absurd hm (Nat.not_lt_zero _)
    | succ nn ih_lp =>
      intro st T f μ F1 A1 hst hks hlen hf32 hv hP hdT hfl hfr hμ hm_lp
      have hM := hfr.m hp hM0
      have hbc5 := bc_le f
      refine wp_iload_n dX10_fall_38 rfl 3 rfl ?_
      refine wp_if_lt 239 dX10_fall_39 (by decide) (fun c1 => ?_) (fun c1 => ?_)
      · have hst0 := tp_nil (by omega) c1; subst hst0
        exact wp_vret hC rfl dX10_fall_239 (pV_ok (by rw [hv]; exact ⟨hP, hfl, hfr, rfl, rfl⟩))
      · obtain ⟨h, k, rest, rfl⟩ := tp_cons c1
        have hl2 : rest.length + 1 ≤ bc f := by simpa using hlen
        have hbc5 := bc_le f
        have hk0 : k ≤ B.1.2.2 := hks (h, k) List.mem_cons_self
        have hks2 : ∀ q ∈ rest, q.2 ≤ B.1.2.2 := fun q hq => hks q (List.mem_cons_of_mem _ hq)
        have hm1 : 1 ≤ μ := by simp only [stM] at hμ; omega
        refine wp_aload_n dX10_fall_42 rfl 0 rfl ?_
        refine wp_getO (q := 141) fX10_62 hR rfl (rfl) (by decide) (by decide) rfl dX10_fall_43 ?_
        refine wp_iload_n dX10_fall_46 rfl 3 rfl ?_
        refine wp_iald rest.length (tp_c _ _) (rfl) (by decide) ((show rest.length < 6 from by omega)) dX10_fall_47 ?_
        refine wp_top (x' := nI k) (hst.2.1) ?_
        refine wp_istore [1, 2, 3, 4, 0] (by decide) rfl rfl rfl dX10_fall_48 ?_
        refine wp_iload dX10_fall_50 4 rfl ?_
        refine wp_aload_n dX10_fall_52 rfl 0 rfl ?_
        refine wp_getI fX10_134 rfl (rfl) (by decide) dX10_fall_53 ?_
        refine wp_top (x' := nI B.1.2.2) (hM.2.2.1) ?_
        refine wp_icmp_ne 65 dX10_fall_56 (by decide) (fun c2 => ?_) (fun c2 => ?_)
        · replace c2 := mt (ix_eq (a := k) (b := B.1.2.2) (rfl) (rfl) (by omega) (by omega)).mpr c2
          have hkl : k < B.1.2.2 := by omega
          have hjn := (jn_ok hw hkl).2
          refine wp_aload_n dX10_fall_65 rfl 0 rfl ?_
          refine wp_getO (q := 141) fX10_62 hR rfl (rfl) (by decide) (by decide) rfl dX10_fall_66 ?_
          refine wp_iload_n dX10_fall_69 rfl 3 rfl ?_
          refine wp_dup2 dX10_fall_70 rfl rfl ?_
          refine wp_iald rest.length (tp_c _ _) (rfl) (by decide) ((show rest.length < 6 from by omega)) dX10_fall_71 ?_
          refine wp_top (x' := nI k) (hst.2.1) ?_
          refine wp_iconst (v := 1) dX10_fall_72 (by decide) ?_
          refine wp_iadd dX10_fall_73 ?_
          refine wp_top (x' := nI (k + 1)) (nI_1 k) ?_
          refine wp_iast rest.length (tp_c _ _) (rfl) (by decide) ((show rest.length < 6 from by omega)) dX10_fall_74 ?_
          obtain ⟨A2, hA2⟩ : ∃ z, z = u2 A1 141 rest.length (nI (k + 1)) := ⟨_, rfl⟩
          rw [← hA2]
          have hst : stk A2 ((h, k + 1) :: rest) := ⟨by rw [hA2, u2_ne (by decide)]; exact hst.1, by rw [hA2, u2_row, va_up_self], stk_c rest (fun i hi => ⟨by rw [hA2, u2_ne (by decide)], by rw [hA2, u2_row, va_up_ne _ _ (by omega)]⟩) hst.2.2⟩
          have hP : isP A2 p T := isP_c hP (by rw [hA2, u2_ne hpn.2.1])
          have hfr : frP p F A F1 A2 := hfr.trans (show frP p F1 A1 F1 A2 from by rw [hA2]; exact frP.A (Or.inr (Or.inr rfl)))
          have hM := hfr.m hp hM0
          refine wp_aload_n dX10_fall_75 rfl 0 rfl ?_
          refine wp_getO (q := 127) fX10_19 hR rfl (rfl) (by decide) (by decide) rfl dX10_fall_76 ?_
          refine wp_iconst (v := 3) dX10_fall_79 (by decide) ?_
          refine wp_iload dX10_fall_80 4 rfl ?_
          refine wp_imul dX10_fall_82 ?_
          refine wp_iconst (v := 1) dX10_fall_83 (by decide) ?_
          refine wp_iadd dX10_fall_84 ?_
          refine wp_iald ((3 * k) + 1) (ix_add (ix_mul rfl rfl) rfl) (rfl) (by decide) ((show (3 * k) + 1 < 12 from by omega)) dX10_fall_85 ?_
          refine wp_top (x' := B.2 8 k) (hM.2.2.2.2.2 k (by omega) 1 (by decide)) ?_
          refine wp_top (x' := nI (jn B k)) ((jn_ok hw hkl).1) ?_
          refine wp_istore [1, 2, 3, 4, 5, 0] (by decide) rfl rfl rfl dX10_fall_86 ?_
          refine wp_aload_n dX10_fall_88 rfl 0 rfl ?_
          refine wp_getO (q := 127) fX10_19 hR rfl (rfl) (by decide) (by decide) rfl dX10_fall_89 ?_
          refine wp_iconst (v := 3) dX10_fall_92 (by decide) ?_
          refine wp_iload dX10_fall_93 4 rfl ?_
          refine wp_imul dX10_fall_95 ?_
          refine wp_iald (3 * k) (ix_mul rfl rfl) (rfl) (by decide) ((show 3 * k < 12 from by omega)) dX10_fall_96 ?_
          refine wp_top (x' := B.2 7 k) (hM.2.2.2.2.2 k (by omega) 0 (by decide)) ?_
          refine wp_aload_n dX10_fall_97 rfl 0 rfl ?_
          refine wp_getO (q := 140) fX10_59 hR rfl (rfl) (by decide) (by decide) rfl dX10_fall_98 ?_
          refine wp_iload_n dX10_fall_101 rfl 3 rfl ?_
          refine wp_iald rest.length (tp_c _ _) (rfl) (by decide) ((show rest.length < 6 from by omega)) dX10_fall_102 ?_
          refine wp_top (x' := nI h) (hst.1) ?_
          refine wp_icmp_ne 110 dX10_fall_103 (by decide) (fun c3 => ?_) (fun c3 => ?_)
          · refine wp_iconst (v := 0) dX10_fall_110 (by decide) ?_
            refine wp_istore [1, 2, 3, 4, 5, 6, 0] (by decide) rfl rfl rfl dX10_fall_111 ?_
            refine wp_iload dX10_fall_113 6 rfl ?_
            refine wp_if_eq 151 dX10_fall_115 (by decide) (fun c4 => ?_) (fun c4 => ?_)
            · refine wp_iload dX10_fall_151 6 rfl ?_
              refine wp_if_eq 236 dX10_fall_153 (by decide) (fun c5 => ?_) (fun c5 => ?_)
              · refine wp_goto 38 dX10_fall_236 (by decide) ?_
                refine wp_lv [0, 1, 2, 3] rfl ?_
                exact ih_lp ((h, k + 1) :: rest) T f (μ - 1) F1 A2 hst (fun q hq => by rcases List.mem_cons.mp hq with rfl | hq; exact hkl; exact hks2 q hq) (by simpa using hlen) hf32 (by rw [hv]; exact unw_step hkl (by unfold stepL; simp only [if_neg c3]; try (unfold setS; simp only [if_neg c3]))) hP hdT hfl hfr (by simp only [stM] at hμ ⊢; omega) (by omega)
              · exact absurd (by decide) c5
            · exact absurd (by decide) c4
          · refine wp_iconst (v := 1) dX10_fall_106 (by decide) ?_
            refine wp_goto 111 dX10_fall_107 (by decide) ?_
            refine wp_istore [1, 2, 3, 4, 5, 6, 0] (by decide) rfl rfl rfl dX10_fall_111 ?_
            refine wp_iload dX10_fall_113 6 rfl ?_
            refine wp_if_eq 151 dX10_fall_115 (by decide) (fun c6 => ?_) (fun c6 => ?_)
            · exact absurd c6 (by decide)
            · refine wp_aload_n dX10_fall_118 rfl 0 rfl ?_
              refine wp_getO (q := 127) fX10_19 hR rfl (rfl) (by decide) (by decide) rfl dX10_fall_119 ?_
              refine wp_iconst (v := 3) dX10_fall_122 (by decide) ?_
              refine wp_iload dX10_fall_123 4 rfl ?_
              refine wp_imul dX10_fall_125 ?_
              refine wp_iconst (v := 2) dX10_fall_126 (by decide) ?_
              refine wp_iadd dX10_fall_127 ?_
              refine wp_iald ((3 * k) + 2) (ix_add (ix_mul rfl rfl) rfl) (rfl) (by decide) ((show (3 * k) + 2 < 12 from by omega)) dX10_fall_128 ?_
              refine wp_top (x' := B.2 9 k) (hM.2.2.2.2.2 k (by omega) 2 (by decide)) ?_
              refine wp_iconst (v := 1) dX10_fall_129 (by decide) ?_
              refine wp_icmp_ne 151 dX10_fall_130 (by decide) (fun c7 => ?_) (fun c7 => ?_)
              · refine wp_iload dX10_fall_151 6 rfl ?_
                refine wp_if_eq 236 dX10_fall_153 (by decide) (fun c8 => ?_) (fun c8 => ?_)
                · exact absurd c8 (by decide)
                · refine wp_aload_n dX10_fall_156 rfl 0 rfl ?_
                  refine wp_getO (q := 127) fX10_19 hR rfl (rfl) (by decide) (by decide) rfl dX10_fall_157 ?_
                  refine wp_iconst (v := 3) dX10_fall_160 (by decide) ?_
                  refine wp_iload dX10_fall_161 4 rfl ?_
                  refine wp_imul dX10_fall_163 ?_
                  refine wp_iconst (v := 2) dX10_fall_164 (by decide) ?_
                  refine wp_iadd dX10_fall_165 ?_
                  refine wp_iald ((3 * k) + 2) (ix_add (ix_mul rfl rfl) rfl) (rfl) (by decide) ((show (3 * k) + 2 < 12 from by omega)) dX10_fall_166 ?_
                  refine wp_top (x' := B.2 9 k) (hM.2.2.2.2.2 k (by omega) 2 (by decide)) ?_
                  refine wp_if_ne 236 dX10_fall_167 (by decide) (fun c9 => ?_) (fun c9 => ?_)
                  · exact absurd (kind01 hw hkl) (by rintro (h | h); exact c9 h; exact c7 h)
                  · refine wp_aload_n dX10_fall_170 rfl 1 rfl ?_
                    refine wp_bipush (v := 12) dX10_fall_171 (by decide) ?_
                    refine wp_iald 12 (rfl) (pg_k hp) (pg_l hp) (pg_i hp (by omega)) dX10_fall_173 ?_
                    refine wp_top (x' := T.2.2 2) (hP 12 (by decide)) ?_
                    refine wp_iload dX10_fall_174 5 rfl ?_
                    refine wp_callP (e := bt (T.2.2 2) (nI (jn B k))) (mm_siteS (av := [.int (T.2.2 2), .int (nI (jn B k))]) hC lX10_144 rfl rfl (Nat.le_of_ble_eq_true rfl) dX10_fall_176) (c_X10_has l k0 _ _ _ _ (T.2.2 2) (nI (jn B k))) (by omega) (by decide) ?_
                    refine wp_if_ne 236 dX10_fall_179 (by decide) (fun c10 => ?_) (fun c10 => ?_)
                    · refine wp_goto 38 dX10_fall_236 (by decide) ?_
                      refine wp_lv [0, 1, 2, 3] rfl ?_
                      exact ih_lp ((h, k + 1) :: rest) T f (μ - 1) F1 A2 hst (fun q hq => by rcases List.mem_cons.mp hq with rfl | hq; exact hkl; exact hks2 q hq) (by simpa using hlen) hf32 (by rw [hv]; exact unw_step hkl (by unfold stepL; simp only [if_pos c3, if_neg c7, if_neg c10]; try (unfold setS; simp only [if_pos c3, if_neg c7, if_neg c10]))) hP hdT hfl hfr (by simp only [stM] at hμ ⊢; omega) (by omega)
                    · refine wp_aload_n dX10_fall_182 rfl 0 rfl ?_
                      refine wp_getI fX10_152 rfl (rfl) (by decide) dX10_fall_183 ?_
                      refine wp_top (x' := nI f) (hfl) ?_
                      refine wp_iload dX10_fall_186 5 rfl ?_
                      refine wp_callP (e := bt (nI f) (nI (jn B k))) (mm_siteS (av := [.int (nI f), .int (nI (jn B k))]) hC lX10_144 rfl rfl (Nat.le_of_ble_eq_true rfl) dX10_fall_188) (c_X10_has l k0 _ _ _ _ (nI f) (nI (jn B k))) (by omega) (by decide) ?_
                      refine wp_if_ne 236 dX10_fall_191 (by decide) (fun c11 => ?_) (fun c11 => ?_)
                      · refine wp_goto 38 dX10_fall_236 (by decide) ?_
                        refine wp_lv [0, 1, 2, 3] rfl ?_
                        exact ih_lp ((h, k + 1) :: rest) T f (μ - 1) F1 A2 hst (fun q hq => by rcases List.mem_cons.mp hq with rfl | hq; exact hkl; exact hks2 q hq) (by simpa using hlen) hf32 (by rw [hv]; exact unw_step hkl (by unfold stepL; simp only [if_pos c3, if_neg c7, if_pos c10, if_neg c11]; try (unfold setS; simp only [if_pos c3, if_neg c7, if_pos c10, if_neg c11]))) hP hdT hfl hfr (by simp only [stM] at hμ ⊢; omega) (by omega)
                      · refine wp_aload_n dX10_fall_194 rfl 1 rfl ?_
                        refine wp_bipush (v := 12) dX10_fall_195 (by decide) ?_
                        refine wp_dup2 dX10_fall_197 rfl rfl ?_
                        refine wp_iald 12 (rfl) (pg_k hp) (pg_l hp) (pg_i hp (by omega)) dX10_fall_198 ?_
                        refine wp_top (x' := T.2.2 2) (hP 12 (by decide)) ?_
                        refine wp_iconst (v := 1) dX10_fall_199 (by decide) ?_
                        refine wp_iload dX10_fall_200 5 rfl ?_
                        refine wp_ishl dX10_fall_202 ?_
                        refine wp_ior dX10_fall_203 ?_
                        refine wp_iast 12 (rfl) (pg_k hp) (pg_l hp) (pg_i hp (by omega)) dX10_fall_204 ?_
                        obtain ⟨A4, hA4⟩ : ∃ z, z = u2 A2 p 12 ((T.2.2 2) ||| (1 <<< ((nI (jn B k)) &&& 31))) := ⟨_, rfl⟩
                        rw [← hA4]
                        have hP4 : isP A4 p (T.1, T.2.1, va_up T.2.2 2 (T.2.2 2 ||| sh (jn B k))) := by rw [hA4]; exact isP_12 hP
                        have hfr4 : frP p F A F1 A4 := hfr.trans (show frP p F1 A2 F1 A4 from by rw [hA4]; exact frP.A (Or.inl rfl))
                        have hst4 : stk A4 ((h, k + 1) :: rest) := stk_c _ (fun i _ => ⟨by rw [hA4, u2_ne (Ne.symm hpn.1)], by rw [hA4, u2_ne (Ne.symm hpn.2.1)]⟩) hst
                        have hbo := bc_or f hf32 (jn B k) (by omega) c11
                        have hbo5 := bc_le (f ||| 2 ^ jn B k)
                        have hdT4 : dn (T.1, T.2.1, va_up T.2.2 2 (T.2.2 2 ||| sh (jn B k))) := by obtain ⟨n, hn, e⟩ := hdT; obtain ⟨q, h1, h2⟩ := dn_or (h := jn B k) hn (by omega); exact ⟨q, h1, by simp only [va_up_self]; rw [e]; exact h2⟩
                        refine wp_aload_n dX10_fall_205 rfl 0 rfl ?_
                        refine wp_dup dX10_fall_206 rfl ?_
                        refine wp_getI fX10_152 rfl (rfl) (by decide) dX10_fall_207 ?_
                        refine wp_top (x' := nI f) (hfl) ?_
                        refine wp_iconst (v := 1) dX10_fall_210 (by decide) ?_
                        refine wp_iload dX10_fall_211 5 rfl ?_
                        refine wp_ishl dX10_fall_213 ?_
                        refine wp_ior dX10_fall_214 ?_
                        refine wp_putI fX10_152 fn_10_30 rfl (rfl) (by decide) dX10_fall_215 ?_
                        obtain ⟨F4, hF4⟩ : ∃ z, z = u2 F1 123 30 ((nI f) ||| (1 <<< ((nI (jn B k)) &&& 31))) := ⟨_, rfl⟩
                        rw [← hF4]
                        have hfl4 : F4 123 30 = nI (f ||| 2 ^ jn B k) := by rw [hF4, u2_row, va_up_self]; exact hbo.2.2
                        have hfr4 := hfr4.trans (show frP p F1 A4 F4 A4 from by rw [hF4]; exact frP.F)
                        refine wp_iinc (v := tp ((jn B k, 0) :: (h, k + 1) :: rest)) 3 rfl (by exact tp_push _ _ _ _) [1, 2, 3, 0, 5, 6, 7] (by decide) rfl rfl rfl dX10_fall_218 ?_
                        refine wp_aload_n dX10_fall_221 rfl 0 rfl ?_
                        refine wp_getO (q := 140) fX10_59 hR rfl (rfl) (by decide) (by decide) rfl dX10_fall_222 ?_
                        refine wp_iload_n dX10_fall_225 rfl 3 rfl ?_
                        refine wp_iload dX10_fall_226 5 rfl ?_
                        refine wp_iast (rest.length + 1) (tp_c _ _) (rfl) (by decide) ((show rest.length + 1 < 6 from by omega)) dX10_fall_228 ?_
                        refine wp_aload_n dX10_fall_229 rfl 0 rfl ?_
                        refine wp_getO (q := 141) fX10_62 hR rfl (rfl) (by decide) (by decide) rfl dX10_fall_230 ?_
                        refine wp_iload_n dX10_fall_233 rfl 3 rfl ?_
                        refine wp_iconst (v := 0) dX10_fall_234 (by decide) ?_
                        refine wp_iast (rest.length + 1) (tp_c _ _) (rfl) (by decide) ((show rest.length + 1 < 6 from by omega)) dX10_fall_235 ?_
                        obtain ⟨A5, hA5⟩ : ∃ z, z = u2 (u2 A4 140 (rest.length + 1) (nI (jn B k))) 141 (rest.length + 1) 0 := ⟨_, rfl⟩
                        rw [← hA5]
                        have hst5 : stk A5 ((jn B k, 0) :: (h, k + 1) :: rest) := ⟨by rw [hA5, u2_ne (by decide), u2_row]; exact va_up_self _ _ _, by rw [hA5, u2_row]; exact va_up_self _ _ _, stk_c _ (fun i hi => by simp only [List.length_cons] at hi; exact ⟨by rw [hA5, u2_ne (by decide), u2_row, va_up_ne _ _ (by omega)], by rw [hA5, u2_row, va_up_ne _ _ (by omega), u2_ne (by decide)]⟩) hst4⟩
                        have hP5 : isP A5 p (T.1, T.2.1, va_up T.2.2 2 (T.2.2 2 ||| sh (jn B k))) := isP_c hP4 (by rw [hA5, u2_ne hpn.2.1, u2_ne hpn.1])
                        have hfr5 : frP p F A F4 A5 := hfr4.trans (show frP p F4 A4 F4 A5 from by rw [hA5]; exact (frP.A (Or.inr (Or.inl rfl))).trans (frP.A (Or.inr (Or.inr rfl))))
                        refine wp_goto 38 dX10_fall_236 (by decide) ?_
                        refine wp_lv [0, 1, 2, 3] rfl ?_
                        exact ih_lp ((jn B k, 0) :: (h, k + 1) :: rest) _ (f ||| 2 ^ jn B k) (μ - 1) F4 A5 hst5 (fun q hq => by rcases List.mem_cons.mp hq with rfl | hq; exact Nat.zero_le _; rcases List.mem_cons.mp hq with rfl | hq; exact hkl; exact hks2 q hq) (by simp only [List.length_cons]; omega) hbo.2.1 (by rw [hv, unw_push hkl (by omega) rfl c3 c7 c10 c11, hbo.2.2]) hP5 hdT4 hfl4 hfr5 (by simp only [stM] at hμ ⊢; omega) (by omega)
              · refine wp_aload_n dX10_fall_133 rfl 1 rfl ?_
                refine wp_bipush (v := 12) dX10_fall_134 (by decide) ?_
                refine wp_iald 12 (rfl) (pg_k hp) (pg_l hp) (pg_i hp (by omega)) dX10_fall_136 ?_
                refine wp_top (x' := T.2.2 2) (hP 12 (by decide)) ?_
                refine wp_iload dX10_fall_137 5 rfl ?_
                refine wp_callP (e := bt (T.2.2 2) (nI (jn B k))) (mm_siteS (av := [.int (T.2.2 2), .int (nI (jn B k))]) hC lX10_144 rfl rfl (Nat.le_of_ble_eq_true rfl) dX10_fall_139) (c_X10_has l k0 _ _ _ _ (T.2.2 2) (nI (jn B k))) (by omega) (by decide) ?_
                refine wp_if_eq 151 dX10_fall_142 (by decide) (fun c12 => ?_) (fun c12 => ?_)
                · refine wp_iload dX10_fall_151 6 rfl ?_
                  refine wp_if_eq 236 dX10_fall_153 (by decide) (fun c13 => ?_) (fun c13 => ?_)
                  · exact absurd c13 (by decide)
                  · refine wp_aload_n dX10_fall_156 rfl 0 rfl ?_
                    refine wp_getO (q := 127) fX10_19 hR rfl (rfl) (by decide) (by decide) rfl dX10_fall_157 ?_
                    refine wp_iconst (v := 3) dX10_fall_160 (by decide) ?_
                    refine wp_iload dX10_fall_161 4 rfl ?_
                    refine wp_imul dX10_fall_163 ?_
                    refine wp_iconst (v := 2) dX10_fall_164 (by decide) ?_
                    refine wp_iadd dX10_fall_165 ?_
                    refine wp_iald ((3 * k) + 2) (ix_add (ix_mul rfl rfl) rfl) (rfl) (by decide) ((show (3 * k) + 2 < 12 from by omega)) dX10_fall_166 ?_
                    refine wp_top (x' := B.2 9 k) (hM.2.2.2.2.2 k (by omega) 2 (by decide)) ?_
                    refine wp_if_ne 236 dX10_fall_167 (by decide) (fun c14 => ?_) (fun c14 => ?_)
                    · refine wp_goto 38 dX10_fall_236 (by decide) ?_
                      refine wp_lv [0, 1, 2, 3] rfl ?_
                      exact ih_lp ((h, k + 1) :: rest) T f (μ - 1) F1 A2 hst (fun q hq => by rcases List.mem_cons.mp hq with rfl | hq; exact hkl; exact hks2 q hq) (by simpa using hlen) hf32 (by rw [hv]; exact unw_step hkl (by unfold stepL; simp only [if_pos c3, if_pos c7, if_pos c12]; try (unfold setS; simp only [if_pos c3, if_pos c7, if_pos c12]))) hP hdT hfl hfr (by simp only [stM] at hμ ⊢; omega) (by omega)
                    · exact absurd (c7.symm.trans c14) (by decide)
                · refine wp_aload_n dX10_fall_145 rfl 1 rfl ?_
                  refine wp_iload dX10_fall_146 5 rfl ?_
                  refine wp_callV (mm_siteS (av := [.ref p, .int (nI (jn B k))]) hC lX10_155 rfl rfl (Nat.le_of_ble_eq_true rfl) dX10_fall_148) (c_X10_stand l k0 _ _ _ _ p (jn B k) T hp hP hdT (by omega) c12) (by omega) (by decide) (by decide) ?_
                  rintro F1 A3 _ _ ⟨rfl, hP, hr3, rfl, rfl⟩
                  have hst := stk_c (A1 := A3) _ (fun i _ => ⟨by rw [hr3 140 (Ne.symm hpn.1)], by rw [hr3 141 (Ne.symm hpn.2.1)]⟩) hst
                  have hdT := dn_set (h := jn B k) hdT (by omega)
                  have hfr : frP p F A F1 A3 := hfr.trans ⟨fun _ _ => rfl, fun _ _ => rfl, fun r h1 _ _ => hr3 r h1⟩
                  have hM := hfr.m hp hM0
                  refine wp_iload dX10_fall_151 6 rfl ?_
                  refine wp_if_eq 236 dX10_fall_153 (by decide) (fun c15 => ?_) (fun c15 => ?_)
                  · exact absurd c15 (by decide)
                  · refine wp_aload_n dX10_fall_156 rfl 0 rfl ?_
                    refine wp_getO (q := 127) fX10_19 hR rfl (rfl) (by decide) (by decide) rfl dX10_fall_157 ?_
                    refine wp_iconst (v := 3) dX10_fall_160 (by decide) ?_
                    refine wp_iload dX10_fall_161 4 rfl ?_
                    refine wp_imul dX10_fall_163 ?_
                    refine wp_iconst (v := 2) dX10_fall_164 (by decide) ?_
                    refine wp_iadd dX10_fall_165 ?_
                    refine wp_iald ((3 * k) + 2) (ix_add (ix_mul rfl rfl) rfl) (rfl) (by decide) ((show (3 * k) + 2 < 12 from by omega)) dX10_fall_166 ?_
                    refine wp_top (x' := B.2 9 k) (hM.2.2.2.2.2 k (by omega) 2 (by decide)) ?_
                    refine wp_if_ne 236 dX10_fall_167 (by decide) (fun c16 => ?_) (fun c16 => ?_)
                    · refine wp_goto 38 dX10_fall_236 (by decide) ?_
                      refine wp_lv [0, 1, 2, 3] rfl ?_
                      exact ih_lp ((h, k + 1) :: rest) (setS T (jn B k)) f (μ - 1) F1 A3 hst (fun q hq => by rcases List.mem_cons.mp hq with rfl | hq; exact hkl; exact hks2 q hq) (by simpa using hlen) hf32 (by rw [hv]; exact unw_step hkl (by unfold stepL; simp only [if_pos c3, if_pos c7, if_neg c12]; try (unfold setS; simp only [if_pos c3, if_pos c7, if_neg c12]))) hP hdT hfl hfr (by simp only [stM] at hμ ⊢; omega) (by omega)
                    · exact absurd (c7.symm.trans c16) (by decide)
        · replace c2 := (ix_eq (a := k) (b := B.1.2.2) (rfl) (rfl) (by omega) (by omega)).mp c2
          refine wp_iinc (v := tp rest) 3 rfl (by exact tp_pop _ _) [1, 2, 3, 0, 5] (by decide) rfl rfl rfl dX10_fall_59 ?_
          refine wp_goto 236 dX10_fall_62 (by decide) ?_
          refine wp_goto 38 dX10_fall_236 (by decide) ?_
          refine wp_lv [0, 1, 2, 3] rfl ?_
          exact ih_lp rest T f (μ - 1) F1 A1 hst.2.2 hks2 (by omega) hf32 (by rw [hv, show k = B.1.2.2 by omega, unw_pop]) hP hdT hfl hfr (by simp only [stM] at hμ; omega) (by omega)
  exact lp ((stM B.1.2.2 [(h0, 0)] + (5 - bc (2 ^ h0)) * 6) + 1) [(h0, 0)] (S.1, S.2.1, va_up S.2.2 2 (S.2.2 2 ||| sh h0)) (2 ^ h0) (stM B.1.2.2 [(h0, 0)] + (5 - bc (2 ^ h0)) * 6) F2 A3 hst0 (fun q hq => by simp at hq; subst hq; exact Nat.zero_le _) (by rw [hbp.1]; exact Nat.le_refl _) hbp.2 (by rw [← or0 h0 hh0]; rfl) hP3 hdS1 hfl0 hfr3 (Nat.le_refl _) (by omega)

set_option maxRecDepth 100000 in
set_option maxHeartbeats 600000 in
theorem c_X10_goThrow (l : Launch) (k : Nat) (F A : mmF) (R : mmR) (G : mmG) (p t : Nat) (pl lk : Int32) (S : SV) (B : BV) (hR : mm_RL R) (hp : pg p) (hM : isM F A 4 125 B) (hw : wfB B) (hP : isP A p S) (hd : dn S) (hkS : ∀ h, h < B.1.1 → bt (S.2.2 3) (nI h) = 0 ∨ B.2 3 h = 3) (ht : t < B.1.2.1) : Meets l hX10_goThrow (k + 2) 144 144 [.ref 123, .ref p, .int (nI t), .int pl, .int lk] F A R G (pV (fun F1 A1 R1 G1 => isP A1 p (throwP B S t pl lk).1 ∧ F1 123 30 = (throwP B S t pl lk).2 ∧ frP p F A F1 A1 ∧ R = R1 ∧ G = G1)) := by
  refine mm_start rfl (Nat.le_of_ble_eq_true rfl) (fun X hC => ?_)
  show WP hX10_goThrow X 144 0 [(0, .ref 123), (1, .ref p), (2, .int (nI t)), (3, .int pl), (4, .int lk)] [] F A R G
  have hw1 := hw.1
  have hM0 := hM
  refine wp_aload_n dX10_goThrow_0 rfl 0 rfl ?_
  refine wp_iconst (v := 0) dX10_goThrow_1 (by decide) ?_
  refine wp_putI fX10_152 fn_10_30 rfl (rfl) (by decide) dX10_goThrow_2 ?_
  obtain ⟨F1, hF1⟩ : ∃ z, z = u2 F 123 30 0 := ⟨_, rfl⟩
  rw [← hF1]
  have hfr : frP p F A F1 A := by rw [hF1]; exact frP.F
  have h30 : F1 123 30 = 0 := by rw [hF1, u2_row]; exact va_up_self _ _ _
  have hM := hfr.m hp hM0
  refine wp_aload_n dX10_goThrow_5 rfl 0 rfl ?_
  refine wp_aload_n dX10_goThrow_6 rfl 1 rfl ?_
  refine wp_iload_n dX10_goThrow_7 rfl 2 rfl ?_
  refine wp_iload_n dX10_goThrow_8 rfl 3 rfl ?_
  refine wp_iload dX10_goThrow_9 4 rfl ?_
  refine wp_callP (e := landP (B.2 4 t) (B.2 6 t) pl lk (S.2.2 5)) (mm_siteV (av := [.ref p, .int (nI t), .int pl, .int lk]) hC lX10_159 (rfl) (by decide) ⟨_, rfl, rfl⟩ rfl rfl (Nat.le_of_ble_eq_true rfl) dX10_goThrow_11) (c_X10_landing l k _ _ _ _ p t _ _ S B hR hp hM hw hP ht) (by omega) (by decide) ?_
  refine wp_istore [1, 2, 3, 4, 5, 0] (by decide) rfl rfl rfl dX10_goThrow_14 ?_
  refine wp_iload dX10_goThrow_16 5 rfl ?_
  refine wp_bipush (v := 8) dX10_goThrow_18 (by decide) ?_
  refine wp_icmp_ne 28 dX10_goThrow_20 (by decide) (fun c1 => ?_) (fun c1 => ?_)
  · refine wp_aload_n dX10_goThrow_28 rfl 0 rfl ?_
    refine wp_iload dX10_goThrow_29 5 rfl ?_
    refine wp_callP (e := hAt (B.2 1) (landP (B.2 4 t) (B.2 6 t) pl lk (S.2.2 5)) 0 B.1.1) (mm_siteV (av := [.int (landP (B.2 4 t) (B.2 6 t) pl lk (S.2.2 5))]) hC lX10_163 (rfl) (by decide) ⟨_, rfl, rfl⟩ rfl rfl (Nat.le_of_ble_eq_true rfl) dX10_goThrow_31) (c_X10_huskAt l (k + 1) _ _ _ _ _ B hR hM hw) (by omega) (by decide) ?_
    rcases hAt_or (B.2 1) (landP (B.2 4 t) (B.2 6 t) pl lk (S.2.2 5)) B.1.1 0 with hz | ⟨j, -, hj, hz, -⟩
    · refine wp_top (x' := (-9)) hz ?_
      refine wp_istore [1, 2, 3, 4, 5, 6, 0] (by decide) rfl rfl rfl dX10_goThrow_34 ?_
      refine wp_iload dX10_goThrow_36 6 rfl ?_
      refine wp_bipush (v := (-9)) dX10_goThrow_38 (by decide) ?_
      refine wp_icmp_eq 55 dX10_goThrow_40 (by decide) (fun c2 => ?_) (fun c2 => ?_)
      · exact wp_vret hC rfl dX10_goThrow_55 (pV_ok (by rw [throwP_off hz]; exact ⟨hP, h30, hfr, rfl, rfl⟩))
      · exact absurd rfl c2
    · refine wp_top (x' := nI j) hz ?_
      refine wp_istore [1, 2, 3, 4, 5, 6, 0] (by decide) rfl rfl rfl dX10_goThrow_34 ?_
      refine wp_iload dX10_goThrow_36 6 rfl ?_
      refine wp_bipush (v := (-9)) dX10_goThrow_38 (by decide) ?_
      refine wp_icmp_eq 55 dX10_goThrow_40 (by decide) (fun c3 => ?_) (fun c3 => ?_)
      · exact absurd c3 (nI_ne9 (by omega))
      · have hj5 : j < B.1.1 := by omega
        have hth := throwP_at (B := B) (S := S) (t := t) (pl := pl) (lk := lk) (j := j) hz (by omega)
        refine wp_aload_n dX10_goThrow_43 rfl 1 rfl ?_
        refine wp_bipush (v := 12) dX10_goThrow_44 (by decide) ?_
        refine wp_iald 12 (rfl) (pg_k hp) (pg_l hp) (pg_i hp (by omega)) dX10_goThrow_46 ?_
        refine wp_top (x' := S.2.2 2) (hP 12 (by decide)) ?_
        refine wp_iload dX10_goThrow_47 6 rfl ?_
        refine wp_callP (e := bt (S.2.2 2) (nI j)) (mm_siteS (av := [.int (S.2.2 2), .int (nI j)]) hC lX10_144 rfl rfl (Nat.le_of_ble_eq_true rfl) dX10_goThrow_49) (c_X10_has l (k + 1) _ _ _ _ (S.2.2 2) (nI j)) (by omega) (by decide) ?_
        refine wp_if_eq 56 dX10_goThrow_52 (by decide) (fun c4 => ?_) (fun c4 => ?_)
        · refine wp_aload_n dX10_goThrow_56 rfl 1 rfl ?_
          refine wp_iconst (v := 0) dX10_goThrow_57 (by decide) ?_
          refine wp_iload dX10_goThrow_58 6 rfl ?_
          refine wp_iadd dX10_goThrow_60 ?_
          refine wp_dup2 dX10_goThrow_61 rfl rfl ?_
          refine wp_iald (0 + j) (ix_add rfl rfl) (pg_k hp) (pg_l hp) (pg_i hp (by omega)) dX10_goThrow_62 ?_
          refine wp_top (x' := S.1 j) (isP_l hP (by omega)) ?_
          refine wp_aload_n dX10_goThrow_63 rfl 0 rfl ?_
          refine wp_iload_n dX10_goThrow_64 rfl 2 rfl ?_
          refine wp_callP (e := forceP (B.2 5 t) (B.2 6 t)) (mm_siteV (av := [.int (nI t)]) hC lX10_167 (rfl) (by decide) ⟨_, rfl, rfl⟩ rfl rfl (Nat.le_of_ble_eq_true rfl) dX10_goThrow_65) (c_X10_force l (k + 1) _ _ _ _ t B hR hM hw ht) (by omega) (by decide) ?_
          refine wp_iadd dX10_goThrow_68 ?_
          refine wp_iast (0 + j) (ix_add rfl rfl) (pg_k hp) (pg_l hp) (pg_i hp (by omega)) dX10_goThrow_69 ?_
          obtain ⟨A2, hA2⟩ : ∃ z, z = u2 A p (0 + j) ((S.1 j) + (forceP (B.2 5 t) (B.2 6 t))) := ⟨_, rfl⟩
          rw [← hA2]
          have hP2 : isP A2 p (va_up S.1 j (S.1 j + forceP (B.2 5 t) (B.2 6 t)), S.2.1, S.2.2) := by rw [hA2]; exact isP_lo hP (by omega)
          have hfr2 : frP p F A F1 A2 := hfr.trans (show frP p F1 A F1 A2 from by rw [hA2]; exact frP.A (Or.inl rfl))
          have hM := hfr2.m hp hM0
          refine wp_aload_n dX10_goThrow_70 rfl 1 rfl ?_
          refine wp_iconst (v := 5) dX10_goThrow_71 (by decide) ?_
          refine wp_iload dX10_goThrow_72 6 rfl ?_
          refine wp_iadd dX10_goThrow_74 ?_
          refine wp_dup2 dX10_goThrow_75 rfl rfl ?_
          refine wp_iald (5 + j) (ix_add rfl rfl) (pg_k hp) (pg_l hp) (pg_i hp (by omega)) dX10_goThrow_76 ?_
          refine wp_top (x' := (va_up S.1 j (S.1 j + forceP (B.2 5 t) (B.2 6 t)), S.2.1, S.2.2).2.1 j) (isP_h hP2 (by omega)) ?_
          refine wp_iconst (v := 1) dX10_goThrow_77 (by decide) ?_
          refine wp_iadd dX10_goThrow_78 ?_
          refine wp_iast (5 + j) (ix_add rfl rfl) (pg_k hp) (pg_l hp) (pg_i hp (by omega)) dX10_goThrow_79 ?_
          obtain ⟨A3, hA3⟩ : ∃ z, z = u2 A2 p (5 + j) (((va_up S.1 j (S.1 j + forceP (B.2 5 t) (B.2 6 t)), S.2.1, S.2.2).2.1 j) + 1) := ⟨_, rfl⟩
          rw [← hA3]
          have hP3 : isP A3 p (hitS B S t j) := by rw [hA3]; exact isP_hi hP2 (by omega)
          have hfr3 : frP p F A F1 A3 := hfr2.trans (show frP p F1 A2 F1 A3 from by rw [hA3]; exact frP.A (Or.inl rfl))
          have hM := hfr3.m hp hM0
          refine wp_aload_n dX10_goThrow_80 rfl 1 rfl ?_
          refine wp_iconst (v := 0) dX10_goThrow_81 (by decide) ?_
          refine wp_iload dX10_goThrow_82 6 rfl ?_
          refine wp_iadd dX10_goThrow_84 ?_
          refine wp_iald (0 + j) (ix_add rfl rfl) (pg_k hp) (pg_l hp) (pg_i hp (by omega)) dX10_goThrow_85 ?_
          refine wp_top (x' := (hitS B S t j).1 j) (isP_l hP3 (by omega)) ?_
          refine wp_aload_n dX10_goThrow_86 rfl 0 rfl ?_
          refine wp_aload_n dX10_goThrow_87 rfl 1 rfl ?_
          refine wp_iload dX10_goThrow_88 6 rfl ?_
          refine wp_callP (e := firmB B (hitS B S t j) j) (mm_siteV (av := [.ref p, .int (nI j)]) hC lX10_170 (rfl) (by decide) ⟨_, rfl, rfl⟩ rfl rfl (Nat.le_of_ble_eq_true rfl) dX10_goThrow_90) (c_X10_firm l k _ _ _ _ p j (hitS B S t j) B hR hp hM hw hP3 hj5 (hkS j hj5)) (by omega) (by decide) ?_
          refine wp_icmp_lt 151 dX10_goThrow_93 (by decide) (fun c5 => ?_) (fun c5 => ?_)
          · exact wp_vret hC rfl dX10_goThrow_151 (pV_ok (by rw [hth, if_pos c4]; unfold strikeP; rw [if_neg (Int32.not_le.mpr c5)]; exact ⟨hP3, h30, hfr3, rfl, rfl⟩))
          · refine wp_aload_n dX10_goThrow_96 rfl 0 rfl ?_
            refine wp_getO (q := 125) fX10_13 hR rfl (rfl) (by decide) (by decide) rfl dX10_goThrow_97 ?_
            refine wp_iconst (v := 3) dX10_goThrow_100 (by decide) ?_
            refine wp_iload dX10_goThrow_101 6 rfl ?_
            refine wp_imul dX10_goThrow_103 ?_
            refine wp_iconst (v := 2) dX10_goThrow_104 (by decide) ?_
            refine wp_iadd dX10_goThrow_105 ?_
            refine wp_iald ((3 * j) + 2) (ix_add (ix_mul rfl rfl) rfl) (rfl) (by decide) ((show (3 * j) + 2 < 15 from by omega)) dX10_goThrow_106 ?_
            refine wp_top (x' := B.2 3 j) (hM.2.2.2.1 j (by omega) 2 (by decide)) ?_
            refine wp_iconst (v := 3) dX10_goThrow_107 (by decide) ?_
            refine wp_icmp_ne 144 dX10_goThrow_108 (by decide) (fun c6 => ?_) (fun c6 => ?_)
            · refine wp_aload_n dX10_goThrow_144 rfl 0 rfl ?_
              refine wp_aload_n dX10_goThrow_145 rfl 1 rfl ?_
              refine wp_iload dX10_goThrow_146 6 rfl ?_
              refine wp_callV (mm_siteV (av := [.ref p, .int (nI j)]) hC lX10_173 (rfl) (by decide) ⟨_, rfl, rfl⟩ rfl rfl (Nat.le_of_ble_eq_true rfl) dX10_goThrow_148) (c_X10_fall l k _ _ _ _ p j (hitS B S t j) B hR hp hM hw hP3 hd (by omega) h30) (by omega) (by decide) (by decide) ?_
              rintro F6 A6 _ _ ⟨hP6, h306, hfr6, rfl, rfl⟩
              exact wp_vret hC rfl dX10_goThrow_151 (pV_ok (by rw [hth, if_pos c4]; unfold strikeP; rw [if_pos (Int32.not_lt.mp c5), if_neg c6]; exact ⟨hP6, h306, hfr3.trans hfr6, rfl, rfl⟩))
            · refine wp_aload_n dX10_goThrow_111 rfl 1 rfl ?_
              refine wp_bipush (v := 10) dX10_goThrow_112 (by decide) ?_
              refine wp_iald 10 (rfl) (pg_k hp) (pg_l hp) (pg_i hp (by omega)) dX10_goThrow_114 ?_
              refine wp_top (x' := (hitS B S t j).2.2 3) (hP3 10 (by decide)) ?_
              refine wp_iload dX10_goThrow_115 6 rfl ?_
              refine wp_callP (e := bt ((hitS B S t j).2.2 3) (nI j)) (mm_siteS (av := [.int ((hitS B S t j).2.2 3), .int (nI j)]) hC lX10_144 rfl rfl (Nat.le_of_ble_eq_true rfl) dX10_goThrow_117) (c_X10_has l (k + 1) _ _ _ _ ((hitS B S t j).2.2 3) (nI j)) (by omega) (by decide) ?_
              refine wp_if_ne 144 dX10_goThrow_120 (by decide) (fun c7 => ?_) (fun c7 => ?_)
              · refine wp_aload_n dX10_goThrow_144 rfl 0 rfl ?_
                refine wp_aload_n dX10_goThrow_145 rfl 1 rfl ?_
                refine wp_iload dX10_goThrow_146 6 rfl ?_
                refine wp_callV (mm_siteV (av := [.ref p, .int (nI j)]) hC lX10_173 (rfl) (by decide) ⟨_, rfl, rfl⟩ rfl rfl (Nat.le_of_ble_eq_true rfl) dX10_goThrow_148) (c_X10_fall l k _ _ _ _ p j (hitS B S t j) B hR hp hM hw hP3 hd (by omega) h30) (by omega) (by decide) (by decide) ?_
                rintro F6 A6 _ _ ⟨hP6, h306, hfr6, rfl, rfl⟩
                exact wp_vret hC rfl dX10_goThrow_151 (pV_ok (by rw [hth, if_pos c4]; unfold strikeP; rw [if_pos (Int32.not_lt.mp c5), if_pos c6, if_neg (show ¬ bt (S.2.2 3) (nI j) = 0 from c7)]; exact ⟨hP6, h306, hfr3.trans hfr6, rfl, rfl⟩))
              · refine wp_aload_n dX10_goThrow_123 rfl 1 rfl ?_
                refine wp_bipush (v := 10) dX10_goThrow_124 (by decide) ?_
                refine wp_dup2 dX10_goThrow_126 rfl rfl ?_
                refine wp_iald 10 (rfl) (pg_k hp) (pg_l hp) (pg_i hp (by omega)) dX10_goThrow_127 ?_
                refine wp_top (x' := (hitS B S t j).2.2 3) (hP3 10 (by decide)) ?_
                refine wp_iconst (v := 1) dX10_goThrow_128 (by decide) ?_
                refine wp_iload dX10_goThrow_129 6 rfl ?_
                refine wp_ishl dX10_goThrow_131 ?_
                refine wp_ior dX10_goThrow_132 ?_
                refine wp_iast 10 (rfl) (pg_k hp) (pg_l hp) (pg_i hp (by omega)) dX10_goThrow_133 ?_
                obtain ⟨A4, hA4⟩ : ∃ z, z = u2 A3 p 10 (((hitS B S t j).2.2 3) ||| (1 <<< ((nI j) &&& 31))) := ⟨_, rfl⟩
                rw [← hA4]
                have hP4 : isP A4 p ((hitS B S t j).1, (hitS B S t j).2.1, va_up S.2.2 3 (S.2.2 3 ||| sh j)) := by rw [hA4]; exact isP_10 hP3
                have hfr4 : frP p F A F1 A4 := hfr3.trans (show frP p F1 A3 F1 A4 from by rw [hA4]; exact frP.A (Or.inl rfl))
                refine wp_aload_n dX10_goThrow_134 rfl 1 rfl ?_
                refine wp_iconst (v := 0) dX10_goThrow_135 (by decide) ?_
                refine wp_iload dX10_goThrow_136 6 rfl ?_
                refine wp_iadd dX10_goThrow_138 ?_
                refine wp_iconst (v := 0) dX10_goThrow_139 (by decide) ?_
                refine wp_iast (0 + j) (ix_add rfl rfl) (pg_k hp) (pg_l hp) (pg_i hp (by omega)) dX10_goThrow_140 ?_
                obtain ⟨A5, hA5⟩ : ∃ z, z = u2 A4 p (0 + j) 0 := ⟨_, rfl⟩
                rw [← hA5]
                have hP5 : isP A5 p (va_up (hitS B S t j).1 j 0, (hitS B S t j).2.1, va_up S.2.2 3 (S.2.2 3 ||| sh j)) := by rw [hA5]; exact isP_lo hP4 (by omega)
                have hfr5 : frP p F A F1 A5 := hfr4.trans (show frP p F1 A4 F1 A5 from by rw [hA5]; exact frP.A (Or.inl rfl))
                refine wp_goto 151 dX10_goThrow_141 (by decide) ?_
                exact wp_vret hC rfl dX10_goThrow_151 (pV_ok (by rw [hth, if_pos c4]; unfold strikeP; rw [if_pos (Int32.not_lt.mp c5), if_pos c6, if_pos (show bt (S.2.2 3) (nI j) = 0 from c7)]; exact ⟨hP5, h30, hfr5, rfl, rfl⟩))
        · exact wp_vret hC rfl dX10_goThrow_55 (pV_ok (by rw [hth, if_neg c4]; exact ⟨hP, h30, hfr, rfl, rfl⟩))
  · have hz : landH B S t pl lk = -9 := by unfold landH; rw [c1]; exact hAt_8 hw
    refine wp_bipush (v := (-9)) dX10_goThrow_23 (by decide) ?_
    refine wp_goto 34 dX10_goThrow_25 (by decide) ?_
    refine wp_istore [1, 2, 3, 4, 5, 6, 0] (by decide) rfl rfl rfl dX10_goThrow_34 ?_
    refine wp_iload dX10_goThrow_36 6 rfl ?_
    refine wp_bipush (v := (-9)) dX10_goThrow_38 (by decide) ?_
    refine wp_icmp_eq 55 dX10_goThrow_40 (by decide) (fun c8 => ?_) (fun c8 => ?_)
    · exact wp_vret hC rfl dX10_goThrow_55 (pV_ok (by rw [throwP_off hz]; exact ⟨hP, h30, hfr, rfl, rfl⟩))
    · exact absurd rfl c8

def thrS (B : BV) (S : SV) (t h : Nat) : SV := if canB B S t h = 0 then S else (strikeP B S t h).1
theorem can_nat {B : BV} {S : SV} {t h : Nat} (hc : ¬ canB B S t h = 0) : bt (S.2.2 2) (nI h) = 0 ∧ ∃ q, q < 8 ∧ B.2 1 h - driftP (B.2 6 t) (S.2.2 5) = nI q := by
  unfold canB at hc
  split at hc
  · split at hc
    · exact absurd rfl hc
    · rename_i h1 h2
      exact ⟨h1, isIn_nat (n := 8) (by decide) h2⟩
  · exact absurd rfl hc
theorem isIn_ok {n m : Nat} (h : n < m) (hm : m < 2 ^ 31) : ¬ isIn (nI n) (nI m) = 0 := by
  unfold isIn; rw [if_neg (nI_pos (by omega)), if_neg (by rw [nI_leI hm (by omega)]; omega)]; decide
theorem throw_at {B : BV} {S : SV} {t h : Nat} (hw : wfB B) (hh : h < B.1.1) (hc : ¬ canB B S t h = 0) : throwP B S t (B.2 1 h - driftP (B.2 6 t) (S.2.2 5)) 0 = strikeP B S t h := by
  have hw1 := hw.1
  obtain ⟨h1, -⟩ := can_nat hc
  obtain ⟨⟨q, hq, e⟩, -⟩ := hw.2.1 h hh
  have hl : landP (B.2 4 t) (B.2 6 t) (B.2 1 h - driftP (B.2 6 t) (S.2.2 5)) 0 (S.2.2 5) = B.2 1 h := by
    have e2 : B.2 1 h - driftP (B.2 6 t) (S.2.2 5) + astrayP (B.2 4 t) (B.2 6 t) 0 + driftP (B.2 6 t) (S.2.2 5) = B.2 1 h := by
      unfold astrayP; rw [if_pos rfl, Int32.add_zero, Int32.sub_add_cancel]
    unfold landP; rw [e2, e, if_neg (show ¬ isIn (nI q) 8 = 0 from isIn_ok (m := 8) hq (by decide))]
  have hz : landH B S t (B.2 1 h - driftP (B.2 6 t) (S.2.2 5)) 0 = nI h := by unfold landH; rw [hl]; exact hAt_at hw hh
  rw [throwP_at hz (by omega), if_pos h1]
set_option maxRecDepth 100000 in
set_option maxHeartbeats 600000 in
theorem c_X10_throwsAt (l : Launch) (k : Nat) (F A : mmF) (R : mmR) (G : mmG) (t h : Nat) (S : SV) (B : BV) (hR : mm_RL R) (hM : isM F A 4 125 B) (hw : wfB B) (hP : isP A 132 S) (hd : dn S) (hkS : ∀ h, h < B.1.1 → bt (S.2.2 3) (nI h) = 0 ∨ B.2 3 h = 3) (ht : t < B.1.2.1) (hh : h < B.1.1) : Meets l hX10_throwsAt (k + 3) 144 144 [.ref 123, .int (nI t), .int (nI h)] F A R G (pI (fun v F1 A1 R1 G1 => v = (if canB B S t h = 0 then 0 else 1) ∧ isP A1 132 (thrS B S t h) ∧ frP 132 F A F1 A1 ∧ R = R1 ∧ G = G1)) := by
  refine mm_start rfl (Nat.le_of_ble_eq_true rfl) (fun X hC => ?_)
  show WP hX10_throwsAt X 144 0 [(0, .ref 123), (1, .int (nI t)), (2, .int (nI h))] [] F A R G
  have hw1 := hw.1
  refine wp_aload_n dX10_throwsAt_0 rfl 0 rfl ?_
  refine wp_aload_n dX10_throwsAt_1 rfl 0 rfl ?_
  refine wp_getO (q := 132) fX10_34 hR rfl (rfl) (by decide) (by decide) rfl dX10_throwsAt_2 ?_
  refine wp_iload_n dX10_throwsAt_5 rfl 1 rfl ?_
  refine wp_iload_n dX10_throwsAt_6 rfl 2 rfl ?_
  refine wp_callP (mm_siteV (av := [.ref 132, .int (nI t), .int (nI h)]) hC lX10_202 (rfl) (by decide) ⟨_, rfl, rfl⟩ rfl rfl (Nat.le_of_ble_eq_true rfl) dX10_throwsAt_7) (c_X10_placeAt l (k + 1) _ _ _ _ 132 t h S B hR (Or.inr (Or.inl rfl)) hM hw hP hh ht) (by omega) (by decide) ?_
  by_cases hc : canB B S t h = 0
  · refine wp_top (x' := (-9)) (if_pos hc) ?_
    refine wp_istore_n [1, 2, 3, 0] (by decide) rfl rfl rfl dX10_throwsAt_10 rfl ?_
    refine wp_iload_n dX10_throwsAt_11 rfl 3 rfl ?_
    refine wp_bipush (v := (-9)) dX10_throwsAt_12 (by decide) ?_
    refine wp_icmp_ne 19 dX10_throwsAt_14 (by decide) (fun c1 => ?_) (fun c1 => ?_)
    · exact absurd rfl c1
    · refine wp_iconst (v := 0) dX10_throwsAt_17 (by decide) ?_
      exact wp_iret hC rfl rfl dX10_throwsAt_18 (pI_ok (by unfold thrS; rw [if_pos hc, if_pos hc]; exact ⟨rfl, hP, frP.refl _ _ _, rfl, rfl⟩))
  · refine wp_top (x' := B.2 1 h - driftP (B.2 6 t) (S.2.2 5)) (if_neg hc) ?_
    refine wp_istore_n [1, 2, 3, 0] (by decide) rfl rfl rfl dX10_throwsAt_10 rfl ?_
    refine wp_iload_n dX10_throwsAt_11 rfl 3 rfl ?_
    refine wp_bipush (v := (-9)) dX10_throwsAt_12 (by decide) ?_
    refine wp_icmp_ne 19 dX10_throwsAt_14 (by decide) (fun c2 => ?_) (fun c2 => ?_)
    · refine wp_aload_n dX10_throwsAt_19 rfl 0 rfl ?_
      refine wp_aload_n dX10_throwsAt_20 rfl 0 rfl ?_
      refine wp_getO (q := 132) fX10_34 hR rfl (rfl) (by decide) (by decide) rfl dX10_throwsAt_21 ?_
      refine wp_iload_n dX10_throwsAt_24 rfl 1 rfl ?_
      refine wp_iload_n dX10_throwsAt_25 rfl 3 rfl ?_
      refine wp_iconst (v := 0) dX10_throwsAt_26 (by decide) ?_
      refine wp_callV (mm_siteV (av := [.ref 132, .int (nI t), .int (B.2 1 h - driftP (B.2 6 t) (S.2.2 5)), .int 0]) hC lX10_195 (rfl) (by decide) ⟨_, rfl, rfl⟩ rfl rfl (Nat.le_of_ble_eq_true rfl) dX10_throwsAt_27) (c_X10_goThrow l k _ _ _ _ 132 t (B.2 1 h - driftP (B.2 6 t) (S.2.2 5)) 0 S B hR (Or.inr (Or.inl rfl)) hM hw hP hd hkS ht) (by omega) (by decide) (by decide) ?_
      rintro F1 A1 _ _ ⟨hP1, -, hfr1, rfl, rfl⟩
      rw [throw_at hw hh hc] at hP1
      refine wp_iconst (v := 1) dX10_throwsAt_30 (by decide) ?_
      exact wp_iret hC rfl rfl dX10_throwsAt_31 (pI_ok (by unfold thrS; rw [if_neg hc, if_neg hc]; exact ⟨rfl, hP1, hfr1, rfl, rfl⟩))
    · obtain ⟨-, q, hq, e⟩ := can_nat hc
      exact absurd (e.symm.trans c2) (nI_ne9 (by omega))

