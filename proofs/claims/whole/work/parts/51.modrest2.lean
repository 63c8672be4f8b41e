set_option maxRecDepth 100000 in
set_option maxHeartbeats 600000 in
theorem c_X10_findRests (l : Launch) (k : Nat) (F A : mmF) (R : mmR) (G : mmG) (S : SV) (B : BV) (hR : mm_RL R) (hM : isM F A 4 125 B) (hw : wfB B) (hP : isP A 131 S) (hd : dn S) (hkS : ∀ h, h < B.1.1 → bt (S.2.2 3) (nI h) = 0 ∨ B.2 3 h = 3) (h2 : 2 ≤ B.1.2.1) : Meets l hX10_findRests (k + 5) 144 144 [.ref 123] F A R G (pV (fun F1 A1 R1 G1 => (F1 123 37, F1 123 38) = restsP B S ∧ frG 37 38 142 F A F1 A1 ∧ R = R1 ∧ G = G1)) := by
  refine mm_start rfl (Nat.le_of_ble_eq_true rfl) (fun X hC => ?_)
  show WP hX10_findRests X 144 0 [(0, .ref 123)] [] F A R G
  have hw1 := hw.1
  obtain ⟨k0, hk0⟩ : ∃ k0, k0 = k := ⟨_, rfl⟩
  refine wp_iconst (v := 0) dX10_findRests_0 (by decide) ?_
  refine wp_istore_n [1, 0] (by decide) rfl rfl rfl dX10_findRests_1 rfl ?_
  have lp : ∀ (nn : Nat) (k : Nat) (F1 A1 : mmF), (k ≤ 36) → (∀ i j, i ≤ B.1.1 → j ≤ B.1.1 → 6 * i + j < k → A1 142 (2 * (6 * i + j)) = (pairW B S i j).1 ∧ A1 142 (2 * (6 * i + j) + 1) = (pairW B S i j).2) → (frG 37 38 142 F A F1 A1) → 36 - k < nn → WP hX10_findRests X 144 2 [(0, .ref 123), (1, .int (nI k))] [] F1 A1 R G := by
    intro nn
    induction nn with
    | zero => intro k F1 A1 _ _ _ hm; exact absurd hm (Nat.not_lt_zero _)
    | succ nn ih_lp =>
      intro k F1 A1 hk36 hl hf hm_lp
      have hMc := hf.m (by decide) (by decide) (by decide) hM
      have hPr : isP A1 131 S := isP_c hP (hf.2.2 131 (by decide) (by decide) (by decide) (by decide))
      refine wp_iload_n dX10_findRests_2 rfl 1 rfl ?_
      refine wp_bipush (v := 36) dX10_findRests_3 (by decide) ?_
      refine wp_icmp_ge 48 dX10_findRests_5 (by decide) (fun c1 => ?_) (fun c1 => ?_)
      · replace c1 := (ix_le (a := 36) (b := k) (rfl) (rfl) (by omega) (by omega)).mp c1
        refine wp_aload_n dX10_findRests_48 rfl 0 rfl ?_
        refine wp_iconst (v := 0) dX10_findRests_49 (by decide) ?_
        refine wp_putI fX10_258 fn_10_37 rfl (rfl) (by decide) dX10_findRests_50 ?_
        refine wp_aload_n dX10_findRests_53 rfl 0 rfl ?_
        refine wp_bipush (v := (-9)) dX10_findRests_54 (by decide) ?_
        refine wp_putI fX10_261 fn_10_38 rfl (rfl) (by decide) dX10_findRests_56 ?_
        obtain ⟨F2, hF2⟩ : ∃ z, z = u2 (u2 F1 123 37 0) 123 38 (-9) := ⟨_, rfl⟩
        rw [← hF2]
        have hacc0 : (F2 123 37, F2 123 38) = ((0 : Int32), (-9 : Int32)) := by rw [hF2]; simp [u2, va_up]
        have hf2 : frG 37 38 142 F A F2 A1 := hf.trans (show frG 37 38 142 F1 A1 F2 A1 from by rw [hF2]; exact (frG.F (Or.inl rfl)).trans (frG.F (Or.inr rfl)))
        have hlw : ∀ i j, i ≤ B.1.1 → j ≤ B.1.1 → 6 * i + j < 36 → A1 142 (2 * (6 * i + j)) = (pairW B S i j).1 ∧ A1 142 (2 * (6 * i + j) + 1) = (pairW B S i j).2 := fun i j hi hj hlt => hl i j hi hj (by omega)
        refine wp_iconst (v := 0) dX10_findRests_59 (by decide) ?_
        refine wp_istore_n [1, 0] (by decide) rfl rfl rfl dX10_findRests_60 rfl ?_
        have la : ∀ (ma : Nat) (a : Nat) (acc : Int32 × Int32) (F3 : mmF), (a ≤ B.1.1 + 1) → (restsP B S = (List.range' a (B.1.1 + 1 - a)).foldl (fun q one => (List.range' 0 (B.1.1 + 1)).foldl (cntP (pw1 B S) (pw2 B S) B.1.1 one) q) acc) → ((F3 123 37, F3 123 38) = acc) → (frG 37 38 142 F A F3 A1) → B.1.1 + 1 - a < ma → WP hX10_findRests X 144 61 [(0, .ref 123), (1, .int (nI a))] [] F3 A1 R G := by
          intro ma
          induction ma with
          | zero => intro a acc F3 _ _ _ _ hm; exact absurd hm (Nat.not_lt_zero _)
          | succ ma ih_la =>
            intro a acc F3 ha hva hacc hf3 hm_la
            have hMc := hf3.m (by decide) (by decide) (by decide) hM
            refine wp_iload_n dX10_findRests_61 rfl 1 rfl ?_
            refine wp_aload_n dX10_findRests_62 rfl 0 rfl ?_
            refine wp_getI fX10_75 rfl (rfl) (by decide) dX10_findRests_63 ?_
            refine wp_top (x' := nI B.1.1) (hMc.1) ?_
            refine wp_icmp_gt 231 dX10_findRests_66 (by decide) (fun c2 => ?_) (fun c2 => ?_)
            · replace c2 := (ix_lt (a := B.1.1) (b := a) (rfl) (rfl) (by omega) (by omega)).mp c2
              exact wp_vret hC rfl dX10_findRests_231 (pV_ok ⟨by rw [hacc, hva, show B.1.1 + 1 - a = 0 by omega]; rfl, hf3, rfl, rfl⟩)
            · replace c2 := mt (ix_lt (a := B.1.1) (b := a) (rfl) (rfl) (by omega) (by omega)).mpr c2
              refine wp_iconst (v := 0) dX10_findRests_69 (by decide) ?_
              refine wp_istore_n [1, 2, 0] (by decide) rfl rfl rfl dX10_findRests_70 rfl ?_
              have lb : ∀ (mb : Nat) (b : Nat) (acc4 : Int32 × Int32) (F4 : mmF), (b ≤ B.1.1 + 1) → (restsP B S = (List.range' (a + 1) (B.1.1 + 1 - (a + 1))).foldl (fun q one => (List.range' 0 (B.1.1 + 1)).foldl (cntP (pw1 B S) (pw2 B S) B.1.1 one) q) ((List.range' b (B.1.1 + 1 - b)).foldl (cntP (pw1 B S) (pw2 B S) B.1.1 a) acc4)) → ((F4 123 37, F4 123 38) = acc4) → (frG 37 38 142 F A F4 A1) → B.1.1 + 1 - b < mb → WP hX10_findRests X 144 71 [(0, .ref 123), (1, .int (nI a)), (2, .int (nI b))] [] F4 A1 R G := by
                intro mb
                induction mb with
                | zero => intro b acc4 F4 _ _ _ _ hm; exact absurd hm (Nat.not_lt_zero _)
                | succ mb ih_lb =>
                  intro b acc4 F4 hb hvb hacc4 hf4 hm_lb
                  have hMc := hf4.m (by decide) (by decide) (by decide) hM
                  refine wp_iload_n dX10_findRests_71 rfl 2 rfl ?_
                  refine wp_aload_n dX10_findRests_72 rfl 0 rfl ?_
                  refine wp_getI fX10_75 rfl (rfl) (by decide) dX10_findRests_73 ?_
                  refine wp_top (x' := nI B.1.1) (hMc.1) ?_
                  refine wp_icmp_gt 225 dX10_findRests_76 (by decide) (fun c3 => ?_) (fun c3 => ?_)
                  · replace c3 := (ix_lt (a := B.1.1) (b := b) (rfl) (rfl) (by omega) (by omega)).mp c3
                    refine wp_iinc (v := nI (a + 1)) 1 rfl (by exact nI_1 a) [1, 0, 3] (by decide) rfl rfl rfl dX10_findRests_225 ?_
                    refine wp_goto 61 dX10_findRests_228 (by decide) ?_
                    refine wp_lv [0, 1] rfl ?_
                    exact ih_la (a + 1) acc4 F4 (by omega) (by rw [hvb, show B.1.1 + 1 - b = 0 by omega, List.range'_zero, List.foldl_nil]) hacc4 hf4 (by omega)
                  · replace c3 := mt (ix_lt (a := B.1.1) (b := b) (rfl) (rfl) (by omega) (by omega)).mpr c3
                    refine wp_iconst (v := 1) dX10_findRests_79 (by decide) ?_
                    refine wp_istore_n [1, 2, 3, 0] (by decide) rfl rfl rfl dX10_findRests_80 rfl ?_
                    refine wp_iconst (v := 0) dX10_findRests_81 (by decide) ?_
                    refine wp_istore [1, 2, 3, 4, 0] (by decide) rfl rfl rfl dX10_findRests_82 ?_
                    have lk : ∀ (mk : Nat) (k : Nat) (s : Int32), (k ≤ B.1.1 + 1) → ((s = 1 ∧ restP (pw1 B S) (pw2 B S) a b 0 (B.1.1 + 1) = restP (pw1 B S) (pw2 B S) a b k (B.1.1 + 1 - k)) ∨ (s = 0 ∧ restP (pw1 B S) (pw2 B S) a b 0 (B.1.1 + 1) = 0)) → B.1.1 + 1 - k < mk → WP hX10_findRests X 144 84 [(0, .ref 123), (1, .int (nI a)), (2, .int (nI b)), (3, .int s), (4, .int (nI k))] [] F4 A1 R G := by
                      intro mk
                      induction mk with
                      | zero => intro k s _ _ hm; exact absurd hm (Nat.not_lt_zero _)
                      | succ mk ih_lk =>
                        intro k s hk hs hm_lk
                        refine wp_iload dX10_findRests_84 4 rfl ?_
                        refine wp_aload_n dX10_findRests_86 rfl 0 rfl ?_
                        refine wp_getI fX10_75 rfl (rfl) (by decide) dX10_findRests_87 ?_
                        refine wp_top (x' := nI B.1.1) (hMc.1) ?_
                        refine wp_icmp_gt 173 dX10_findRests_90 (by decide) (fun c4 => ?_) (fun c4 => ?_)
                        · replace c4 := (ix_lt (a := B.1.1) (b := k) (rfl) (rfl) (by omega) (by omega)).mp c4
                          refine wp_aload_n dX10_findRests_173 rfl 0 rfl ?_
                          refine wp_iload_n dX10_findRests_174 rfl 3 rfl ?_
                          refine wp_if_eq 194 dX10_findRests_175 (by decide) (fun c5 => ?_) (fun c5 => ?_)
                          · refine wp_aload_n dX10_findRests_194 rfl 0 rfl ?_
                            refine wp_getI fX10_261 rfl (rfl) (by decide) dX10_findRests_195 ?_
                            refine wp_top (x' := acc4.2) (congrArg Prod.snd hacc4) ?_
                            refine wp_putI fX10_261 fn_10_38 rfl (rfl) (by decide) dX10_findRests_198 ?_
                            obtain ⟨F5, hF5⟩ : ∃ z, z = u2 F4 123 38 acc4.2 := ⟨_, rfl⟩
                            rw [← hF5]
                            have hacc5 : (F5 123 37, F5 123 38) = (acc4.1, acc4.2) := by rw [hF5]; simp [u2, va_up]; exact congrArg Prod.fst hacc4
                            refine wp_aload_n dX10_findRests_201 rfl 0 rfl ?_
                            refine wp_dup dX10_findRests_202 rfl ?_
                            refine wp_getI fX10_258 rfl (rfl) (by decide) dX10_findRests_203 ?_
                            refine wp_top (x' := (acc4.1, acc4.2).1) (congrArg Prod.fst hacc5) ?_
                            refine wp_iload_n dX10_findRests_206 rfl 3 rfl ?_
                            refine wp_if_eq 214 dX10_findRests_207 (by decide) (fun c6 => ?_) (fun c6 => ?_)
                            · refine wp_iconst (v := 0) dX10_findRests_214 (by decide) ?_
                              refine wp_iadd dX10_findRests_215 ?_
                              refine wp_putI fX10_258 fn_10_37 rfl (rfl) (by decide) dX10_findRests_216 ?_
                              obtain ⟨F6, hF6⟩ : ∃ z, z = u2 F5 123 37 (((acc4.1, acc4.2).1) + 0) := ⟨_, rfl⟩
                              rw [← hF6]
                              have e38 : F5 123 38 = acc4.2 := congrArg Prod.snd hacc5
                              have hacc6 : (F6 123 37, F6 123 38) = acc4 := by rw [hF6]; simp [u2, va_up, e38, Int32.add_zero]
                              have hf6 : frG 37 38 142 F A F6 A1 := hf4.trans ((show frG 37 38 142 F4 A1 F5 A1 from by rw [hF5]; exact frG.F (Or.inr rfl)).trans (show frG 37 38 142 F5 A1 F6 A1 from by rw [hF6]; exact frG.F (Or.inl rfl)))
                              refine wp_iinc (v := nI (b + 1)) 2 rfl (by exact nI_1 b) [1, 2, 0, 4, 5] (by decide) rfl rfl rfl dX10_findRests_219 ?_
                              refine wp_goto 71 dX10_findRests_222 (by decide) ?_
                              refine wp_lv [0, 1, 2] rfl ?_
                              exact ih_lb (b + 1) acc4 F6 (by omega) (by rw [hvb, foldl_go (i := b) (by omega), cntP, if_pos (by rcases hs with ⟨h1, -⟩ | ⟨-, e⟩; (rw [h1] at c5; exact absurd c5 (by decide)); exact e)]) hacc6 hf6 (by omega)
                            · exact absurd c5 c6
                          · refine wp_aload_n dX10_findRests_178 rfl 0 rfl ?_
                            refine wp_getI fX10_258 rfl (rfl) (by decide) dX10_findRests_179 ?_
                            refine wp_top (x' := acc4.1) (congrArg Prod.fst hacc4) ?_
                            refine wp_if_ne 194 dX10_findRests_182 (by decide) (fun c7 => ?_) (fun c7 => ?_)
                            · refine wp_aload_n dX10_findRests_194 rfl 0 rfl ?_
                              refine wp_getI fX10_261 rfl (rfl) (by decide) dX10_findRests_195 ?_
                              refine wp_top (x' := acc4.2) (congrArg Prod.snd hacc4) ?_
                              refine wp_putI fX10_261 fn_10_38 rfl (rfl) (by decide) dX10_findRests_198 ?_
                              obtain ⟨F5, hF5⟩ : ∃ z, z = u2 F4 123 38 acc4.2 := ⟨_, rfl⟩
                              rw [← hF5]
                              have hacc5 : (F5 123 37, F5 123 38) = (acc4.1, acc4.2) := by rw [hF5]; simp [u2, va_up]; exact congrArg Prod.fst hacc4
                              refine wp_aload_n dX10_findRests_201 rfl 0 rfl ?_
                              refine wp_dup dX10_findRests_202 rfl ?_
                              refine wp_getI fX10_258 rfl (rfl) (by decide) dX10_findRests_203 ?_
                              refine wp_top (x' := (acc4.1, acc4.2).1) (congrArg Prod.fst hacc5) ?_
                              refine wp_iload_n dX10_findRests_206 rfl 3 rfl ?_
                              refine wp_if_eq 214 dX10_findRests_207 (by decide) (fun c8 => ?_) (fun c8 => ?_)
                              · exact absurd c8 c5
                              · refine wp_iconst (v := 1) dX10_findRests_210 (by decide) ?_
                                refine wp_goto 215 dX10_findRests_211 (by decide) ?_
                                refine wp_iadd dX10_findRests_215 ?_
                                refine wp_putI fX10_258 fn_10_37 rfl (rfl) (by decide) dX10_findRests_216 ?_
                                obtain ⟨F6, hF6⟩ : ∃ z, z = u2 F5 123 37 (((acc4.1, acc4.2).1) + 1) := ⟨_, rfl⟩
                                rw [← hF6]
                                have e38 : F5 123 38 = acc4.2 := congrArg Prod.snd hacc5
                                have hacc6 : (F6 123 37, F6 123 38) = (acc4.1 + 1, acc4.2) := by rw [hF6]; simp [u2, va_up, e38]
                                have hf6 : frG 37 38 142 F A F6 A1 := hf4.trans ((show frG 37 38 142 F4 A1 F5 A1 from by rw [hF5]; exact frG.F (Or.inr rfl)).trans (show frG 37 38 142 F5 A1 F6 A1 from by rw [hF6]; exact frG.F (Or.inl rfl)))
                                refine wp_iinc (v := nI (b + 1)) 2 rfl (by exact nI_1 b) [1, 2, 0, 4, 5] (by decide) rfl rfl rfl dX10_findRests_219 ?_
                                refine wp_goto 71 dX10_findRests_222 (by decide) ?_
                                refine wp_lv [0, 1, 2] rfl ?_
                                exact ih_lb (b + 1) (acc4.1 + 1, acc4.2) F6 (by omega) (by rw [hvb, foldl_go (i := b) (by omega), cntP, if_neg (by rcases hs with ⟨-, e⟩ | ⟨h1, -⟩; (rw [e, show B.1.1 + 1 - k = 0 by omega, restP]; decide); exact absurd h1 c5), if_neg c7]) hacc6 hf6 (by omega)
                            · refine wp_bipush (v := 10) dX10_findRests_185 (by decide) ?_
                              refine wp_iload_n dX10_findRests_187 rfl 1 rfl ?_
                              refine wp_imul dX10_findRests_188 ?_
                              refine wp_iload_n dX10_findRests_189 rfl 2 rfl ?_
                              refine wp_iadd dX10_findRests_190 ?_
                              refine wp_goto 198 dX10_findRests_191 (by decide) ?_
                              refine wp_putI fX10_261 fn_10_38 rfl (rfl) (by decide) dX10_findRests_198 ?_
                              obtain ⟨F5, hF5⟩ : ∃ z, z = u2 F4 123 38 ((10 * (nI a)) + (nI b)) := ⟨_, rfl⟩
                              rw [← hF5]
                              have hacc5 : (F5 123 37, F5 123 38) = (acc4.1, ((10 * (nI a)) + (nI b))) := by rw [hF5, ← hacc4]; simp [u2, va_up]
                              refine wp_aload_n dX10_findRests_201 rfl 0 rfl ?_
                              refine wp_dup dX10_findRests_202 rfl ?_
                              refine wp_getI fX10_258 rfl (rfl) (by decide) dX10_findRests_203 ?_
                              refine wp_top (x' := (acc4.1, ((10 * (nI a)) + (nI b))).1) (congrArg Prod.fst hacc5) ?_
                              refine wp_iload_n dX10_findRests_206 rfl 3 rfl ?_
                              refine wp_if_eq 214 dX10_findRests_207 (by decide) (fun c9 => ?_) (fun c9 => ?_)
                              · exact absurd c9 c5
                              · refine wp_iconst (v := 1) dX10_findRests_210 (by decide) ?_
                                refine wp_goto 215 dX10_findRests_211 (by decide) ?_
                                refine wp_iadd dX10_findRests_215 ?_
                                refine wp_putI fX10_258 fn_10_37 rfl (rfl) (by decide) dX10_findRests_216 ?_
                                obtain ⟨F6, hF6⟩ : ∃ z, z = u2 F5 123 37 (((acc4.1, ((10 * (nI a)) + (nI b))).1) + 1) := ⟨_, rfl⟩
                                rw [← hF6]
                                have e38 : F5 123 38 = ((10 * (nI a)) + (nI b)) := congrArg Prod.snd hacc5
                                have hacc6 : (F6 123 37, F6 123 38) = (acc4.1 + 1, ((10 * (nI a)) + (nI b))) := by rw [hF6]; simp [u2, va_up, e38]
                                have hf6 : frG 37 38 142 F A F6 A1 := hf4.trans ((show frG 37 38 142 F4 A1 F5 A1 from by rw [hF5]; exact frG.F (Or.inr rfl)).trans (show frG 37 38 142 F5 A1 F6 A1 from by rw [hF6]; exact frG.F (Or.inl rfl)))
                                refine wp_iinc (v := nI (b + 1)) 2 rfl (by exact nI_1 b) [1, 2, 0, 4, 5] (by decide) rfl rfl rfl dX10_findRests_219 ?_
                                refine wp_goto 71 dX10_findRests_222 (by decide) ?_
                                refine wp_lv [0, 1, 2] rfl ?_
                                exact ih_lb (b + 1) (acc4.1 + 1, 10 * nI a + nI b) F6 (by omega) (by rw [hvb, foldl_go (i := b) (by omega), cntP, if_neg (by rcases hs with ⟨-, e⟩ | ⟨h1, -⟩; (rw [e, show B.1.1 + 1 - k = 0 by omega, restP]; decide); exact absurd h1 c5), if_pos c7]) hacc6 hf6 (by omega)
                        · replace c4 := mt (ix_lt (a := B.1.1) (b := k) (rfl) (rfl) (by omega) (by omega)).mpr c4
                          refine wp_iload_n dX10_findRests_93 rfl 3 rfl ?_
                          refine wp_if_eq 165 dX10_findRests_94 (by decide) (fun c10 => ?_) (fun c10 => ?_)
                          · refine wp_iconst (v := 0) dX10_findRests_165 (by decide) ?_
                            refine wp_istore_n [1, 2, 3, 0, 5] (by decide) rfl rfl rfl dX10_findRests_166 rfl ?_
                            refine wp_iinc (v := nI (k + 1)) 4 rfl (by exact nI_1 k) [1, 2, 3, 4, 0] (by decide) rfl rfl rfl dX10_findRests_167 ?_
                            refine wp_goto 84 dX10_findRests_170 (by decide) ?_
                            exact ih_lk (k + 1) 0 (by omega) (Or.inr ⟨rfl, by rcases hs with ⟨h1, -⟩ | ⟨-, h2⟩; (rw [h1] at c10; exact absurd c10 (by decide)); exact h2⟩) (by omega)
                          · refine wp_aload_n dX10_findRests_97 rfl 0 rfl ?_
                            refine wp_getO (q := 142) fX10_65 hR rfl (rfl) (by decide) (by decide) rfl dX10_findRests_98 ?_
                            refine wp_iconst (v := 2) dX10_findRests_101 (by decide) ?_
                            refine wp_bipush (v := 6) dX10_findRests_102 (by decide) ?_
                            refine wp_iload dX10_findRests_104 4 rfl ?_
                            refine wp_imul dX10_findRests_106 ?_
                            refine wp_iload_n dX10_findRests_107 rfl 2 rfl ?_
                            refine wp_iadd dX10_findRests_108 ?_
                            refine wp_imul dX10_findRests_109 ?_
                            refine wp_iald (2 * ((6 * k) + b)) (ix_mul rfl (ix_add (ix_mul rfl rfl) rfl)) (rfl) (by decide) ((show 2 * ((6 * k) + b) < 72 from by omega)) dX10_findRests_110 ?_
                            refine wp_top (x' := (pairW B S k b).1) ((hlw k b (by omega) (by omega) (by omega)).1) ?_
                            refine wp_aload_n dX10_findRests_111 rfl 0 rfl ?_
                            refine wp_getO (q := 142) fX10_65 hR rfl (rfl) (by decide) (by decide) rfl dX10_findRests_112 ?_
                            refine wp_iconst (v := 2) dX10_findRests_115 (by decide) ?_
                            refine wp_bipush (v := 6) dX10_findRests_116 (by decide) ?_
                            refine wp_iload_n dX10_findRests_118 rfl 1 rfl ?_
                            refine wp_imul dX10_findRests_119 ?_
                            refine wp_iload_n dX10_findRests_120 rfl 2 rfl ?_
                            refine wp_iadd dX10_findRests_121 ?_
                            refine wp_imul dX10_findRests_122 ?_
                            refine wp_iald (2 * ((6 * a) + b)) (ix_mul rfl (ix_add (ix_mul rfl rfl) rfl)) (rfl) (by decide) ((show 2 * ((6 * a) + b) < 72 from by omega)) dX10_findRests_123 ?_
                            refine wp_top (x' := (pairW B S a b).1) ((hlw a b (by omega) (by omega) (by omega)).1) ?_
                            refine wp_icmp_gt 165 dX10_findRests_124 (by decide) (fun c11 => ?_) (fun c11 => ?_)
                            · refine wp_iconst (v := 0) dX10_findRests_165 (by decide) ?_
                              refine wp_istore_n [1, 2, 3, 0, 5] (by decide) rfl rfl rfl dX10_findRests_166 rfl ?_
                              refine wp_iinc (v := nI (k + 1)) 4 rfl (by exact nI_1 k) [1, 2, 3, 4, 0] (by decide) rfl rfl rfl dX10_findRests_167 ?_
                              refine wp_goto 84 dX10_findRests_170 (by decide) ?_
                              exact ih_lk (k + 1) 0 (by omega) (by rcases hs with ⟨-, e⟩ | ⟨h1, -⟩; exact Or.inr ⟨rfl, by rw [e, show B.1.1 + 1 - k = B.1.1 + 1 - (k + 1) + 1 by omega, restP, (pw_at (B := B) (S := S) (i := a) (j := b) (by omega)).1, (pw_at (B := B) (S := S) (i := k) (j := b) (by omega)).1, (pw_at (B := B) (S := S) (i := a) (j := k) (by omega)).2, (pw_at (B := B) (S := S) (i := a) (j := b) (by omega)).2, if_pos c11]⟩; exact absurd h1 c10) (by omega)
                            · refine wp_aload_n dX10_findRests_127 rfl 0 rfl ?_
                              refine wp_getO (q := 142) fX10_65 hR rfl (rfl) (by decide) (by decide) rfl dX10_findRests_128 ?_
                              refine wp_iconst (v := 2) dX10_findRests_131 (by decide) ?_
                              refine wp_bipush (v := 6) dX10_findRests_132 (by decide) ?_
                              refine wp_iload_n dX10_findRests_134 rfl 1 rfl ?_
                              refine wp_imul dX10_findRests_135 ?_
                              refine wp_iload dX10_findRests_136 4 rfl ?_
                              refine wp_iadd dX10_findRests_138 ?_
                              refine wp_imul dX10_findRests_139 ?_
                              refine wp_iconst (v := 1) dX10_findRests_140 (by decide) ?_
                              refine wp_iadd dX10_findRests_141 ?_
                              refine wp_iald ((2 * ((6 * a) + k)) + 1) (ix_add (ix_mul rfl (ix_add (ix_mul rfl rfl) rfl)) rfl) (rfl) (by decide) ((show (2 * ((6 * a) + k)) + 1 < 72 from by omega)) dX10_findRests_142 ?_
                              refine wp_top (x' := (pairW B S a k).2) ((hlw a k (by omega) (by omega) (by omega)).2) ?_
                              refine wp_aload_n dX10_findRests_143 rfl 0 rfl ?_
                              refine wp_getO (q := 142) fX10_65 hR rfl (rfl) (by decide) (by decide) rfl dX10_findRests_144 ?_
                              refine wp_iconst (v := 2) dX10_findRests_147 (by decide) ?_
                              refine wp_bipush (v := 6) dX10_findRests_148 (by decide) ?_
                              refine wp_iload_n dX10_findRests_150 rfl 1 rfl ?_
                              refine wp_imul dX10_findRests_151 ?_
                              refine wp_iload_n dX10_findRests_152 rfl 2 rfl ?_
                              refine wp_iadd dX10_findRests_153 ?_
                              refine wp_imul dX10_findRests_154 ?_
                              refine wp_iconst (v := 1) dX10_findRests_155 (by decide) ?_
                              refine wp_iadd dX10_findRests_156 ?_
                              refine wp_iald ((2 * ((6 * a) + b)) + 1) (ix_add (ix_mul rfl (ix_add (ix_mul rfl rfl) rfl)) rfl) (rfl) (by decide) ((show (2 * ((6 * a) + b)) + 1 < 72 from by omega)) dX10_findRests_157 ?_
                              refine wp_top (x' := (pairW B S a b).2) ((hlw a b (by omega) (by omega) (by omega)).2) ?_
                              refine wp_icmp_gt 165 dX10_findRests_158 (by decide) (fun c12 => ?_) (fun c12 => ?_)
                              · refine wp_iconst (v := 0) dX10_findRests_165 (by decide) ?_
                                refine wp_istore_n [1, 2, 3, 0, 5] (by decide) rfl rfl rfl dX10_findRests_166 rfl ?_
                                refine wp_iinc (v := nI (k + 1)) 4 rfl (by exact nI_1 k) [1, 2, 3, 4, 0] (by decide) rfl rfl rfl dX10_findRests_167 ?_
                                refine wp_goto 84 dX10_findRests_170 (by decide) ?_
                                exact ih_lk (k + 1) 0 (by omega) (by rcases hs with ⟨-, e⟩ | ⟨h1, -⟩; exact Or.inr ⟨rfl, by rw [e, show B.1.1 + 1 - k = B.1.1 + 1 - (k + 1) + 1 by omega, restP, (pw_at (B := B) (S := S) (i := a) (j := b) (by omega)).1, (pw_at (B := B) (S := S) (i := k) (j := b) (by omega)).1, (pw_at (B := B) (S := S) (i := a) (j := k) (by omega)).2, (pw_at (B := B) (S := S) (i := a) (j := b) (by omega)).2, if_neg c11, if_neg (Int32.not_le.mpr c12)]⟩; exact absurd h1 c10) (by omega)
                              · refine wp_iconst (v := 1) dX10_findRests_161 (by decide) ?_
                                refine wp_goto 166 dX10_findRests_162 (by decide) ?_
                                refine wp_istore_n [1, 2, 3, 0, 5] (by decide) rfl rfl rfl dX10_findRests_166 rfl ?_
                                refine wp_iinc (v := nI (k + 1)) 4 rfl (by exact nI_1 k) [1, 2, 3, 4, 0] (by decide) rfl rfl rfl dX10_findRests_167 ?_
                                refine wp_goto 84 dX10_findRests_170 (by decide) ?_
                                exact ih_lk (k + 1) 1 (by omega) (by rcases hs with ⟨-, e⟩ | ⟨h1, -⟩; exact Or.inl ⟨rfl, by rw [e, show B.1.1 + 1 - k = B.1.1 + 1 - (k + 1) + 1 by omega, restP, (pw_at (B := B) (S := S) (i := a) (j := b) (by omega)).1, (pw_at (B := B) (S := S) (i := k) (j := b) (by omega)).1, (pw_at (B := B) (S := S) (i := a) (j := k) (by omega)).2, (pw_at (B := B) (S := S) (i := a) (j := b) (by omega)).2, if_neg c11, if_pos (Int32.not_lt.mp c12)]⟩; exact absurd h1 c10) (by omega)
                    exact lk ((B.1.1 + 1) + 1) 0 1 (Nat.zero_le _) (Or.inl ⟨rfl, rfl⟩) (by omega)
              exact lb ((B.1.1 + 1) + 1) 0 acc F3 (Nat.zero_le _) (by rw [hva, foldl_go (by omega), Nat.sub_zero]) hacc hf3 (by omega)
        exact la ((B.1.1 + 1) + 1) 0 (0, -9) F2 (Nat.zero_le _) (by unfold restsP setlP; rfl) hacc0 hf2 (by omega)
      · replace c1 := mt (ix_le (a := 36) (b := k) (rfl) (rfl) (by omega) (by omega)).mpr c1
        refine wp_iload_n dX10_findRests_8 rfl 1 rfl ?_
        refine wp_bipush (v := 6) dX10_findRests_9 (by decide) ?_
        refine wp_idiv dX10_findRests_11 (by decide) ?_
        refine wp_top (x' := nI (k / 6)) (ix_div (a := k) (b := 6) rfl rfl (by omega) (by decide) (by decide)) ?_
        refine wp_aload_n dX10_findRests_12 rfl 0 rfl ?_
        refine wp_getI fX10_75 rfl (rfl) (by decide) dX10_findRests_13 ?_
        refine wp_top (x' := nI B.1.1) (hMc.1) ?_
        refine wp_icmp_gt 42 dX10_findRests_16 (by decide) (fun c13 => ?_) (fun c13 => ?_)
        · replace c13 := (ix_lt (a := B.1.1) (b := k / 6) (rfl) (rfl) (by omega) (by omega)).mp c13
          refine wp_iinc (v := nI (k + 1)) 1 rfl (by exact nI_1 k) [1, 0] (by decide) rfl rfl rfl dX10_findRests_42 ?_
          refine wp_goto 2 dX10_findRests_45 (by decide) ?_
          exact ih_lp (k + 1) F1 A1 (by omega) (fun i j hi hj hlt => hl i j hi hj (by omega)) hf (by omega)
        · replace c13 := mt (ix_lt (a := B.1.1) (b := k / 6) (rfl) (rfl) (by omega) (by omega)).mpr c13
          refine wp_iload_n dX10_findRests_19 rfl 1 rfl ?_
          refine wp_bipush (v := 6) dX10_findRests_20 (by decide) ?_
          refine wp_irem dX10_findRests_22 (by decide) ?_
          refine wp_top (x' := nI (k % 6)) (ix_rem (a := k) (b := 6) rfl rfl (by omega) (by decide) (by decide)) ?_
          refine wp_aload_n dX10_findRests_23 rfl 0 rfl ?_
          refine wp_getI fX10_75 rfl (rfl) (by decide) dX10_findRests_24 ?_
          refine wp_top (x' := nI B.1.1) (hMc.1) ?_
          refine wp_icmp_gt 42 dX10_findRests_27 (by decide) (fun c14 => ?_) (fun c14 => ?_)
          · replace c14 := (ix_lt (a := B.1.1) (b := k % 6) (rfl) (rfl) (by omega) (by omega)).mp c14
            refine wp_iinc (v := nI (k + 1)) 1 rfl (by exact nI_1 k) [1, 0] (by decide) rfl rfl rfl dX10_findRests_42 ?_
            refine wp_goto 2 dX10_findRests_45 (by decide) ?_
            exact ih_lp (k + 1) F1 A1 (by omega) (fun i j hi hj hlt => hl i j hi hj (by omega)) hf (by omega)
          · replace c14 := mt (ix_lt (a := B.1.1) (b := k % 6) (rfl) (rfl) (by omega) (by omega)).mpr c14
            refine wp_aload_n dX10_findRests_30 rfl 0 rfl ?_
            refine wp_iload_n dX10_findRests_31 rfl 1 rfl ?_
            refine wp_bipush (v := 6) dX10_findRests_32 (by decide) ?_
            refine wp_idiv dX10_findRests_34 (by decide) ?_
            refine wp_top (x' := nI (k / 6)) (ix_div (a := k) (b := 6) rfl rfl (by omega) (by decide) (by decide)) ?_
            refine wp_iload_n dX10_findRests_35 rfl 1 rfl ?_
            refine wp_bipush (v := 6) dX10_findRests_36 (by decide) ?_
            refine wp_irem dX10_findRests_38 (by decide) ?_
            refine wp_top (x' := nI (k % 6)) (ix_rem (a := k) (b := 6) rfl rfl (by omega) (by decide) (by decide)) ?_
            refine wp_callV (mm_siteV (av := [.int (nI (k / 6)), .int (nI (k % 6))]) hC lX10_254 (rfl) (by decide) ⟨_, rfl, rfl⟩ rfl rfl (Nat.le_of_ble_eq_true rfl) dX10_findRests_39) (c_X10_layWorth l k0 _ _ _ _ (k / 6) (k % 6) S B hR hMc hw hPr hd hkS (by omega) (by omega) h2) (by omega) (by decide) (by decide) ?_
            rintro F2 A2 _ _ ⟨hA2, hf2, rfl, rfl⟩
            refine wp_iinc (v := nI (k + 1)) 1 rfl (by exact nI_1 k) [1, 0] (by decide) rfl rfl rfl dX10_findRests_42 ?_
            refine wp_goto 2 dX10_findRests_45 (by decide) ?_
            exact ih_lp (k + 1) F2 A2 (by omega) (fun i j hi hj hlt => by
            rw [hA2]
            by_cases e : 6 * i + j = k
            · have e1 : k / 6 = i := by omega
              have e2 : k % 6 = j := by omega
              rw [e1, e2, va_up_ne _ _ (by omega), va_up_self, va_up_self]; exact ⟨rfl, rfl⟩
            · rw [va_up_ne _ _ (by omega), va_up_ne _ _ (by omega), va_up_ne _ _ (by omega), va_up_ne _ _ (by omega)]; exact hl i j hi hj (by omega)) (hf.trans (show frG 37 38 142 F1 A1 F2 A2 from ⟨hf2.1, fun j a _ _ => hf2.2.1 j a a a, hf2.2.2⟩)) (by omega)
  exact lp (36 + 1) 0 F A (by decide) (fun i j _ _ h => absurd h (Nat.not_lt_zero _)) (frG.refl _ _ _ _ _) (by omega)

theorem wRests_no {Q : QV} {x : Int32} (h1 : ¬ (qB Q).1.2.1 < 2) (h : isIn x 2 = 0) : wRests Q x = -2 := by
  unfold wRests; rw [if_neg h1]
  unfold isIn at h; split at h
  · rename_i h2; rw [if_pos h2]
  · rename_i h2
    split at h
    · rename_i h3
      rw [if_neg h2, if_neg (fun h4 => absurd (Int32.le_trans h3 h4) (by decide))]
    · exact absurd h (by decide)
set_option maxRecDepth 100000 in
set_option maxHeartbeats 600000 in
theorem c_X10_rests (l : Launch) (k : Nat) (F A : mmF) (R : mmR) (G : mmG) (x : Int32) (Q : QV) (hX : RepM F A R G Q) (hwf : wfQ Q) : Meets l hX10_rests (k + 6) 144 144 [.ref 123, .int x] F A R G (pI (fun v F1 A1 R1 G1 => v = wRests Q x ∧ RepM F1 A1 R1 G1 Q ∧ frY F A R G F1 A1 R1 G1)) := by
  refine mm_start rfl (Nat.le_of_ble_eq_true rfl) (fun X hC => ?_)
  show WP hX10_rests X 144 0 [(0, .ref 123), (1, .int x)] [] F A R G
  obtain ⟨hw60, hw, hwS, hwA, hwE, hwK⟩ := id hwf
  have hw1 := hw.1
  refine wp_aload_n dX10_rests_0 rfl 0 rfl ?_
  refine wp_iconst (v := 0) dX10_rests_1 (by decide) ?_
  refine wp_putI fX10_71 fn_10_0 rfl (rfl) (by decide) dX10_rests_2 ?_
  obtain ⟨F0, hF0⟩ : ∃ z, z = u2 F 123 0 0 := ⟨_, rfl⟩
  rw [← hF0]
  have hs0 : scN F A F0 A := by rw [hF0]; exact scN.F (by decide)
  obtain ⟨hX0, hy0⟩ := hX.scr hs0
  obtain ⟨hR, ⟨hn, ht⟩, hM, hP, ⟨ha, hac⟩, ⟨he, hes⟩, hk, hg⟩ := id hX0
  refine wp_aload_n dX10_rests_5 rfl 0 rfl ?_
  refine wp_getI fX10_82 rfl (rfl) (by decide) dX10_rests_6 ?_
  refine wp_top (x' := nI (qB Q).1.2.1) (hM.2.1) ?_
  refine wp_iconst (v := 2) dX10_rests_9 (by decide) ?_
  refine wp_icmp_ge 15 dX10_rests_10 (by decide) (fun c1 => ?_) (fun c1 => ?_)
  · replace c1 := (ix_le (a := 2) (b := (qB Q).1.2.1) (rfl) (rfl) (by omega) (by omega)).mp c1
    refine wp_iload_n dX10_rests_15 rfl 1 rfl ?_
    refine wp_i2l dX10_rests_16 ?_
    refine wp_lconst (v := 0) dX10_rests_17 rfl ?_
    refine wp_topL (x' := (0 : Int32).toInt64) (by decide) ?_
    refine wp_lconst (v := 1) dX10_rests_18 rfl ?_
    refine wp_topL (x' := (1 : Int32).toInt64) (by decide) ?_
    refine wp_callP (e := inP x 0 1) (mm_siteS (av := [.long x.toInt64, .long ((0 : Int32).toInt64), .long ((1 : Int32).toInt64)]) hC lX10_78 rfl rfl (Nat.le_of_ble_eq_true rfl) dX10_rests_19) (c_X10_in l (k + 5) _ _ _ _ x 0 1) (by omega) (by decide) ?_
    refine wp_if_ne 28 dX10_rests_22 (by decide) (fun c2 => ?_) (fun c2 => ?_)
    · rw [in2] at c2
      obtain ⟨j, hj, rfl⟩ := isIn_nat (n := 2) (by decide) c2
      refine wp_aload_n dX10_rests_28 rfl 0 rfl ?_
      refine wp_callV (mm_siteV (av := []) hC lX10_264 (rfl) (by decide) ⟨_, rfl, rfl⟩ rfl rfl (Nat.le_of_ble_eq_true rfl) dX10_rests_29) (c_X10_findRests l k _ _ _ _ (qS Q) (qB Q) hR hM hw hP hwS.1 hwS.2.2.2 (by omega)) (by omega) (by decide) (by decide) ?_
      rintro F1 A1 _ _ ⟨hq, hf1, rfl, rfl⟩
      refine wp_iload_n dX10_rests_32 rfl 1 rfl ?_
      refine wp_if_ne 43 dX10_rests_33 (by decide) (fun c3 => ?_) (fun c3 => ?_)
      · replace c3 := mt (ix_eq (a := j) (b := 0) (rfl) (rfl) (by omega) (by omega)).mpr c3
        refine wp_aload_n dX10_rests_43 rfl 0 rfl ?_
        refine wp_getI fX10_261 rfl (rfl) (by decide) dX10_rests_44 ?_
        refine wp_top (x' := (restsP (qB Q) (qS Q)).2) (congrArg Prod.snd hq) ?_
        exact wp_iret hC rfl rfl dX10_rests_47 (pI_ok (by unfold wRests; rw [if_neg (show ¬ (qB Q).1.2.1 < 2 by omega), if_neg (nI_pos (by omega)), if_pos (show nI j ≤ 1 from nI_le (b := 1) (by omega) (by decide)), if_neg (show ¬ nI j = 0 from nI_ne0 (by omega) (by omega))]; obtain ⟨hX1, hy1⟩ := hX0.scr (hf1.N (by decide) (by decide) (by decide)); exact ⟨rfl, hX1, hy0.trans hy1⟩))
      · replace c3 := (ix_eq (a := j) (b := 0) (rfl) (rfl) (by omega) (by omega)).mp c3
        refine wp_aload_n dX10_rests_36 rfl 0 rfl ?_
        refine wp_getI fX10_258 rfl (rfl) (by decide) dX10_rests_37 ?_
        refine wp_top (x' := (restsP (qB Q) (qS Q)).1) (congrArg Prod.fst hq) ?_
        refine wp_goto 47 dX10_rests_40 (by decide) ?_
        exact wp_iret hC rfl rfl dX10_rests_47 (pI_ok (by unfold wRests; rw [if_neg (show ¬ (qB Q).1.2.1 < 2 by omega), if_neg (nI_pos (by omega)), if_pos (show nI j ≤ 1 from nI_le (b := 1) (by omega) (by decide)), if_pos (show nI j = 0 from by rw [show j = 0 by omega]; rfl)]; obtain ⟨hX1, hy1⟩ := hX0.scr (hf1.N (by decide) (by decide) (by decide)); exact ⟨rfl, hX1, hy0.trans hy1⟩))
    · rw [in2] at c2
      refine wp_bipush (v := (-2)) dX10_rests_25 (by decide) ?_
      exact wp_iret hC rfl rfl dX10_rests_27 (pI_ok ⟨by rw [wRests_no (by omega) c2], hX0, hy0⟩)
  · replace c1 := mt (ix_le (a := 2) (b := (qB Q).1.2.1) (rfl) (rfl) (by omega) (by omega)).mpr c1
    refine wp_iconst (v := (-1)) dX10_rests_13 (by decide) ?_
    exact wp_iret hC rfl rfl dX10_rests_14 (pI_ok ⟨by unfold wRests; rw [if_pos (by omega)], hX0, hy0⟩)

