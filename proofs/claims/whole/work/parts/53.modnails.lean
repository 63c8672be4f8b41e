set_option maxRecDepth 100000 in
set_option maxHeartbeats 600000 in
theorem c_X10_holdsUp (l : Launch) (k : Nat) (F A : mmF) (R : mmR) (G : mmG) (h : Nat) (U : SV) (B : BV) (hR : mm_RL R) (hM : isM F A 4 125 B) (hw : wfB B) (hU : isP A 133 U) (hd : dn U) (hkU : ∀ h, h < B.1.1 → bt (U.2.2 3) (nI h) = 0 ∨ B.2 3 h = 3) : Meets l hX10_holdsUp (k + 4) 144 144 [.ref 123, .int (nI h)] F A R G (pI (fun v F1 A1 R1 G1 => v = stP B U h ∧ frG 30 30 132 F A F1 A1 ∧ R = R1 ∧ G = G1)) := by
  refine mm_start rfl (Nat.le_of_ble_eq_true rfl) (fun X hC => ?_)
  show WP hX10_holdsUp X 144 0 [(0, .ref 123), (1, .int (nI h))] [] F A R G
  have hw1 := hw.1
  obtain ⟨k0, hk0⟩ : ∃ k0, k0 = k := ⟨_, rfl⟩
  refine wp_iconst (v := 1) dX10_holdsUp_0 (by decide) ?_
  refine wp_istore_n [1, 2, 0] (by decide) rfl rfl rfl dX10_holdsUp_1 rfl ?_
  refine wp_iconst (v := 0) dX10_holdsUp_2 (by decide) ?_
  refine wp_istore_n [1, 2, 3, 0] (by decide) rfl rfl rfl dX10_holdsUp_3 rfl ?_
  have lo : ∀ (mo : Nat) (t : Nat) (s : Int32) (F1 A1 : mmF), (t ≤ B.1.2.1) → ((s = 1 ∧ stP B U h = if scan (fun t => scan (badS B U h t) 0 B.1.1) t (B.1.2.1 - t) = -9 then 1 else 0) ∨ (s = 0 ∧ stP B U h = 0)) → (frG 30 30 132 F A F1 A1) → B.1.2.1 - t < mo → WP hX10_holdsUp X 144 4 [(0, .ref 123), (1, .int (nI h)), (2, .int s), (3, .int (nI t))] [] F1 A1 R G := by
    intro mo
    induction mo with
    | zero => intro t s F1 A1 _ _ _ hm; exact absurd hm (Nat.not_lt_zero _)
    | succ mo ih_lo =>
      intro t s F1 A1 ht hs hf1 hm_lo
      have hMc := hf1.m (by decide) (by decide) (by decide) hM
      refine wp_iload_n dX10_holdsUp_4 rfl 3 rfl ?_
      refine wp_aload_n dX10_holdsUp_5 rfl 0 rfl ?_
      refine wp_getI fX10_82 rfl (rfl) (by decide) dX10_holdsUp_6 ?_
      refine wp_top (x' := nI B.1.2.1) (hMc.2.1) ?_
      refine wp_icmp_ge 81 dX10_holdsUp_9 (by decide) (fun c1 => ?_) (fun c1 => ?_)
      · replace c1 := (ix_le (a := B.1.2.1) (b := t) (rfl) (rfl) (by omega) (by omega)).mp c1
        refine wp_iload_n dX10_holdsUp_81 rfl 2 rfl ?_
        exact wp_iret hC rfl (by rcases hs with ⟨h1, -⟩ | ⟨h1, -⟩ <;> rw [h1] <;> rfl) dX10_holdsUp_82 (pI_ok ⟨by rcases hs with ⟨h1, e⟩ | ⟨h1, e⟩; (rw [h1, e, scan_end (by omega), if_pos rfl]); rw [h1, e], hf1, rfl, rfl⟩)
      · replace c1 := mt (ix_le (a := B.1.2.1) (b := t) (rfl) (rfl) (by omega) (by omega)).mpr c1
        refine wp_iconst (v := 0) dX10_holdsUp_12 (by decide) ?_
        refine wp_istore [1, 2, 3, 4, 0] (by decide) rfl rfl rfl dX10_holdsUp_13 ?_
        have li : ∀ (mi : Nat) (j : Nat) (s2 : Int32) (F2 A2 : mmF), (j ≤ B.1.1) → ((s2 = 1 ∧ stP B U h = if (if scan (badS B U h t) j (B.1.1 - j) = -9 then scan (fun t => scan (badS B U h t) 0 B.1.1) (t + 1) (B.1.2.1 - (t + 1)) else scan (badS B U h t) j (B.1.1 - j)) = -9 then 1 else 0) ∨ (s2 = 0 ∧ stP B U h = 0)) → (frG 30 30 132 F A F2 A2) → B.1.1 - j < mi → WP hX10_holdsUp X 144 15 [(0, .ref 123), (1, .int (nI h)), (2, .int s2), (3, .int (nI t)), (4, .int (nI j))] [] F2 A2 R G := by
          intro mi
          induction mi with
          | zero => intro j s2 F2 A2 _ _ _ hm; exact absurd hm (Nat.not_lt_zero _)
          | succ mi ih_li =>
            intro j s2 F2 A2 hj hs2 hf2 hm_li
            have hMc := hf2.m (by decide) (by decide) (by decide) hM
            refine wp_iload dX10_holdsUp_15 4 rfl ?_
            refine wp_aload_n dX10_holdsUp_17 rfl 0 rfl ?_
            refine wp_getI fX10_75 rfl (rfl) (by decide) dX10_holdsUp_18 ?_
            refine wp_top (x' := nI B.1.1) (hMc.1) ?_
            refine wp_icmp_ge 75 dX10_holdsUp_21 (by decide) (fun c2 => ?_) (fun c2 => ?_)
            · replace c2 := (ix_le (a := B.1.1) (b := j) (rfl) (rfl) (by omega) (by omega)).mp c2
              refine wp_iinc (v := nI (t + 1)) 3 rfl (by exact nI_1 t) [1, 2, 3, 0, 5] (by decide) rfl rfl rfl dX10_holdsUp_75 ?_
              refine wp_goto 4 dX10_holdsUp_78 (by decide) ?_
              refine wp_lv [0, 1, 2, 3] rfl ?_
              exact ih_lo (t + 1) s2 F2 A2 (by omega) (by rcases hs2 with ⟨h1, e⟩ | ⟨h1, e⟩; exact Or.inl ⟨h1, by rw [e, scan_end (by omega), if_pos rfl]⟩; exact Or.inr ⟨h1, e⟩) hf2 (by omega)
            · replace c2 := mt (ix_le (a := B.1.1) (b := j) (rfl) (rfl) (by omega) (by omega)).mpr c2
              refine wp_aload_n dX10_holdsUp_24 rfl 0 rfl ?_
              refine wp_getO (q := 133) fX10_37 hR rfl (rfl) (by decide) (by decide) rfl dX10_holdsUp_25 ?_
              refine wp_aload_n dX10_holdsUp_28 rfl 0 rfl ?_
              refine wp_getO (q := 132) fX10_34 hR rfl (rfl) (by decide) (by decide) rfl dX10_holdsUp_29 ?_
              refine wp_bipush (v := 15) dX10_holdsUp_32 (by decide) ?_
              refine wp_callV (mm_siteS (av := [.ref 133, .ref 132, .int 15]) hC lX10_137 rfl rfl (Nat.le_of_ble_eq_true rfl) dX10_holdsUp_34) (c_X10_copyRow l (k0 + 3) _ _ _ _ 133 132 15 rfl (by decide) (by decide) rfl (by decide) (by decide) (by decide) (by decide)) (by omega) (by decide) (by decide) ?_
              rintro F2 A3 _ _ ⟨rfl, hc3, hr3, rfl, rfl⟩
              have hT3 : isP A3 132 U := fun k hk => (hc3 k hk).trans (by rw [hf2.2.2 133 (by decide) (by decide) (by decide) (by decide)]; exact hU k hk)
              have hf3 : frG 30 30 132 F A F2 A3 := hf2.trans (frG.A (Or.inl rfl) hr3)
              have hMc := hf3.m (by decide) (by decide) (by decide) hM
              refine wp_aload_n dX10_holdsUp_37 rfl 0 rfl ?_
              refine wp_iload_n dX10_holdsUp_38 rfl 3 rfl ?_
              refine wp_iload dX10_holdsUp_39 4 rfl ?_
              refine wp_callI (mm_siteV (av := [.int (nI t), .int (nI j)]) hC lX10_215 (rfl) (by decide) ⟨_, rfl, rfl⟩ rfl rfl (Nat.le_of_ble_eq_true rfl) dX10_holdsUp_41) (c_X10_throwsAt l k0 _ _ _ _ t j U B hR hMc hw hT3 hd hkU (by omega) (by omega)) (by omega) (by decide) ?_
              rintro _ F5 A5 _ _ ⟨rfl, hT5, hp5, rfl, rfl⟩
              have hf5 := hf3.trans (hp5.G 30 30 132)
              refine wp_pop dX10_holdsUp_44 rfl ?_
              refine wp_iload_n dX10_holdsUp_45 rfl 2 rfl ?_
              refine wp_if_eq 67 dX10_holdsUp_46 (by decide) (fun c3 => ?_) (fun c3 => ?_)
              · refine wp_iconst (v := 0) dX10_holdsUp_67 (by decide) ?_
                refine wp_istore_n [1, 2, 0, 4, 5] (by decide) rfl rfl rfl dX10_holdsUp_68 rfl ?_
                refine wp_iinc (v := nI (j + 1)) 4 rfl (by exact nI_1 j) [1, 2, 3, 4, 0] (by decide) rfl rfl rfl dX10_holdsUp_69 ?_
                refine wp_goto 15 dX10_holdsUp_72 (by decide) ?_
                exact ih_li (j + 1) 0 F5 A5 (by omega) (Or.inr ⟨rfl, by rcases hs2 with ⟨h1, -⟩ | ⟨-, h2⟩; (rw [h1] at c3; exact absurd c3 (by decide)); exact h2⟩) hf5 (by omega)
              · refine wp_aload_n dX10_holdsUp_49 rfl 0 rfl ?_
                refine wp_getO (q := 132) fX10_34 hR rfl (rfl) (by decide) (by decide) rfl dX10_holdsUp_50 ?_
                refine wp_bipush (v := 12) dX10_holdsUp_53 (by decide) ?_
                refine wp_iald 12 (rfl) (rfl) (by decide) ((show 12 < 15 from by omega)) dX10_holdsUp_55 ?_
                refine wp_top (x' := (thrS B U t j).2.2 2) (hT5 12 (by decide)) ?_
                refine wp_iload_n dX10_holdsUp_56 rfl 1 rfl ?_
                refine wp_callP (e := bt ((thrS B U t j).2.2 2) (nI h)) (mm_siteS (av := [.int ((thrS B U t j).2.2 2), .int (nI h)]) hC lX10_144 rfl rfl (Nat.le_of_ble_eq_true rfl) dX10_holdsUp_57) (c_X10_has l (k0 + 3) _ _ _ _ ((thrS B U t j).2.2 2) (nI h)) (by omega) (by decide) ?_
                refine wp_if_ne 67 dX10_holdsUp_60 (by decide) (fun c4 => ?_) (fun c4 => ?_)
                · refine wp_iconst (v := 0) dX10_holdsUp_67 (by decide) ?_
                  refine wp_istore_n [1, 2, 0, 4, 5] (by decide) rfl rfl rfl dX10_holdsUp_68 rfl ?_
                  refine wp_iinc (v := nI (j + 1)) 4 rfl (by exact nI_1 j) [1, 2, 3, 4, 0] (by decide) rfl rfl rfl dX10_holdsUp_69 ?_
                  refine wp_goto 15 dX10_holdsUp_72 (by decide) ?_
                  exact ih_li (j + 1) 0 F5 A5 (by omega) (by rcases hs2 with ⟨-, e⟩ | ⟨h1, -⟩; exact Or.inr ⟨rfl, by have hb : badS B U h t j = 0 := (by unfold badS; rw [if_pos (up_bt.mpr c4)]); rw [e, scan_at (f := (badS B U h t)) (by omega) (by rw [hb]; decide), hb]; rfl⟩; exact absurd h1 c3) hf5 (by omega)
                · refine wp_iconst (v := 1) dX10_holdsUp_63 (by decide) ?_
                  refine wp_goto 68 dX10_holdsUp_64 (by decide) ?_
                  refine wp_istore_n [1, 2, 0, 4, 5] (by decide) rfl rfl rfl dX10_holdsUp_68 rfl ?_
                  refine wp_iinc (v := nI (j + 1)) 4 rfl (by exact nI_1 j) [1, 2, 3, 4, 0] (by decide) rfl rfl rfl dX10_holdsUp_69 ?_
                  refine wp_goto 15 dX10_holdsUp_72 (by decide) ?_
                  exact ih_li (j + 1) 1 F5 A5 (by omega) (by rcases hs2 with ⟨-, e⟩ | ⟨h1, -⟩; exact Or.inl ⟨rfl, by rw [e, scan_go (f := (badS B U h t)) (by omega) (show badS B U h t j = -9 from by unfold badS; rw [if_neg (by rw [up_bt]; exact fun hz => hz c4)])]⟩; exact absurd h1 c3) hf5 (by omega)
        exact li (B.1.1 + 1) 0 s F1 A1 (Nat.zero_le _) (by rcases hs with ⟨h1, e⟩ | ⟨h1, e⟩; exact Or.inl ⟨h1, by rw [e, show B.1.2.1 - t = B.1.2.1 - (t + 1) + 1 by omega, scan, Nat.sub_zero]⟩; exact Or.inr ⟨h1, e⟩) hf1 (by omega)
  exact lo (B.1.2.1 + 1) 0 1 F A (Nat.zero_le _) (Or.inl ⟨rfl, rfl⟩) (frG.refl _ _ _ _ _) (by omega)

set_option maxRecDepth 100000 in
set_option maxHeartbeats 600000 in
theorem c_X10_nails (l : Launch) (k : Nat) (F A : mmF) (R : mmR) (G : mmG) (x : Int32) (Q : QV) (hX : RepM F A R G Q) (hwf : wfQ Q) : Meets l hX10_nails (k + 5) 144 144 [.ref 123, .int x] F A R G (pI (fun v F1 A1 R1 G1 => v = wNails Q x ∧ RepM F1 A1 R1 G1 Q ∧ frY F A R G F1 A1 R1 G1)) := by
  refine mm_start rfl (Nat.le_of_ble_eq_true rfl) (fun X hC => ?_)
  show WP hX10_nails X 144 0 [(0, .ref 123), (1, .int x)] [] F A R G
  obtain ⟨hw60, hw, hwS, hwA, hwE, hwK⟩ := id hwf
  have hw1 := hw.1
  obtain ⟨k0, hk0⟩ : ∃ k0, k0 = k := ⟨_, rfl⟩
  obtain ⟨MM, hMM⟩ : ∃ MM, MM = 2 ^ (qB Q).1.1 := ⟨_, rfl⟩
  have hM32 : MM ≤ 32 := by rw [hMM]; exact (Nat.pow_le_pow_right (by decide) hw1.1 : 2 ^ (qB Q).1.1 ≤ 2 ^ 5)
  have hPr0 := hwS.1
  refine wp_aload_n dX10_nails_0 rfl 0 rfl ?_
  refine wp_iconst (v := 0) dX10_nails_1 (by decide) ?_
  refine wp_putI fX10_71 fn_10_0 rfl (rfl) (by decide) dX10_nails_2 ?_
  obtain ⟨F0, hF0⟩ : ∃ z, z = u2 F 123 0 0 := ⟨_, rfl⟩
  rw [← hF0]
  have hs0 : scN F A F0 A := by rw [hF0]; exact scN.F (by decide)
  obtain ⟨hX0, hy0⟩ := hX.scr hs0
  obtain ⟨hR, ⟨hn, ht⟩, hM, hP, ⟨ha, hac⟩, ⟨he, hes⟩, hk, hg⟩ := id hX0
  refine wp_aload_n dX10_nails_5 rfl 0 rfl ?_
  refine wp_iload_n dX10_nails_6 rfl 1 rfl ?_
  refine wp_callP (e := if isIn x (nI (qB Q).1.1) = 0 then 1 else 0) (mm_siteV (av := [.int x]) hC lX10_179 (rfl) (by decide) ⟨_, rfl, rfl⟩ rfl rfl (Nat.le_of_ble_eq_true rfl) dX10_nails_7) (c_X10_noHusk l (k0 + 3) _ _ _ _ _ (qB Q) hM hw) (by omega) (by decide) ?_
  refine wp_if_eq 15 dX10_nails_10 (by decide) (fun c1 => ?_) (fun c1 => ?_)
  · rw [ite01] at c1
    obtain ⟨h, hh, rfl⟩ := isIn_nat (by omega) c1
    have hMc := hM
    have hPr := hP
    refine wp_iconst (v := 1) dX10_nails_15 (by decide) ?_
    refine wp_aload_n dX10_nails_16 rfl 0 rfl ?_
    refine wp_getI fX10_75 rfl (rfl) (by decide) dX10_nails_17 ?_
    refine wp_top (x' := nI (qB Q).1.1) (hMc.1) ?_
    refine wp_ishl dX10_nails_20 ?_
    refine wp_iconst (v := 1) dX10_nails_21 (by decide) ?_
    refine wp_isub dX10_nails_22 ?_
    refine wp_aload_n dX10_nails_23 rfl 0 rfl ?_
    refine wp_getO (q := 131) fX10_31 hR rfl (rfl) (by decide) (by decide) rfl dX10_nails_24 ?_
    refine wp_bipush (v := 12) dX10_nails_27 (by decide) ?_
    refine wp_iald 12 (rfl) (rfl) (by decide) ((show 12 < 15 from by omega)) dX10_nails_29 ?_
    refine wp_top (x' := (qS Q).2.2 2) (hPr 12 (by decide)) ?_
    refine wp_iconst (v := (-1)) dX10_nails_30 (by decide) ?_
    refine wp_ixor dX10_nails_31 ?_
    refine wp_iand dX10_nails_32 ?_
    refine wp_aload_n dX10_nails_33 rfl 0 rfl ?_
    refine wp_getO (q := 131) fX10_31 hR rfl (rfl) (by decide) (by decide) rfl dX10_nails_34 ?_
    refine wp_bipush (v := 11) dX10_nails_37 (by decide) ?_
    refine wp_iald 11 (rfl) (rfl) (by decide) ((show 11 < 15 from by omega)) dX10_nails_39 ?_
    refine wp_top (x' := (qS Q).2.2 4) (hPr 11 (by decide)) ?_
    refine wp_iconst (v := (-1)) dX10_nails_40 (by decide) ?_
    refine wp_ixor dX10_nails_41 ?_
    refine wp_iand dX10_nails_42 ?_
    refine wp_top (x' := freeP (qB Q) (qS Q)) (rfl) ?_
    refine wp_istore_n [1, 2, 0] (by decide) rfl rfl rfl dX10_nails_43 rfl ?_
    refine wp_bipush (v := (-9)) dX10_nails_44 (by decide) ?_
    refine wp_istore_n [1, 2, 3, 0] (by decide) rfl rfl rfl dX10_nails_46 rfl ?_
    refine wp_iconst (v := 0) dX10_nails_47 (by decide) ?_
    refine wp_istore [1, 2, 3, 4, 0] (by decide) rfl rfl rfl dX10_nails_48 ?_
    have lp : ∀ (nn : Nat) (i : Nat) (b : Int32) (F1 A1 : mmF), (i ≤ MM) → (bstN (qB Q) (qS Q) h i b) → (¬ bt ((qS Q).2.2 2) (nI h) = 0 → b = -9) → (frG 30 30 133 F0 A F1 A1) → MM - i < nn → WP hX10_nails X 144 50 [(0, .ref 123), (1, .int (nI h)), (2, .int (freeP (qB Q) (qS Q))), (3, .int b), (4, .int (nI i))] [] F1 A1 R G := by
      intro nn
      induction nn with
      | zero => intro i b F1 A1 _ _ _ _ hm; exact absurd hm (Nat.not_lt_zero _)
      | succ nn ih_lp =>
        intro i b F1 A1 hi hb hdn hf hm_lp
        have hMc := hf.m (by decide) (by decide) (by decide) hM
        have hPr : isP A1 131 (qS Q) := isP_c hP (hf.2.2 131 (by decide) (by decide) (by decide) (by decide))
        refine wp_iload dX10_nails_50 4 rfl ?_
        refine wp_iconst (v := 1) dX10_nails_52 (by decide) ?_
        refine wp_aload_n dX10_nails_53 rfl 0 rfl ?_
        refine wp_getI fX10_75 rfl (rfl) (by decide) dX10_nails_54 ?_
        refine wp_top (x' := nI (qB Q).1.1) (hMc.1) ?_
        refine wp_ishl dX10_nails_57 ?_
        refine wp_top (x' := nI MM) ((sh_nI (by omega)).trans (by rw [hMM])) ?_
        refine wp_icmp_ge 148 dX10_nails_58 (by decide) (fun c2 => ?_) (fun c2 => ?_)
        · replace c2 := (ix_le (a := MM) (b := i) (rfl) (rfl) (by omega) (by omega)).mp c2
          refine wp_iload_n dX10_nails_148 rfl 3 rfl ?_
          exact wp_iret hC rfl rfl dX10_nails_149 (pI_ok (by unfold wNails; rw [if_neg c1, nI_clamp (by omega), nails_b hw (b := b) (by rw [← hMM, show MM = i by omega]; exact hb)]; obtain ⟨hX1, hy1⟩ := hX0.scr (hf.N (by decide) (by decide) (by decide)); refine ⟨?_, hX1, hy0.trans hy1⟩; split; rfl; rename_i hz; exact hdn hz))
        · replace c2 := mt (ix_le (a := MM) (b := i) (rfl) (rfl) (by omega) (by omega)).mpr c2
          refine wp_aload_n dX10_nails_61 rfl 0 rfl ?_
          refine wp_getO (q := 131) fX10_31 hR rfl (rfl) (by decide) (by decide) rfl dX10_nails_62 ?_
          refine wp_bipush (v := 12) dX10_nails_65 (by decide) ?_
          refine wp_iald 12 (rfl) (rfl) (by decide) ((show 12 < 15 from by omega)) dX10_nails_67 ?_
          refine wp_top (x' := (qS Q).2.2 2) (hPr 12 (by decide)) ?_
          refine wp_iload_n dX10_nails_68 rfl 1 rfl ?_
          refine wp_callP (e := bt ((qS Q).2.2 2) (nI h)) (mm_siteS (av := [.int ((qS Q).2.2 2), .int (nI h)]) hC lX10_144 rfl rfl (Nat.le_of_ble_eq_true rfl) dX10_nails_69) (c_X10_has l (k0 + 4) _ _ _ _ ((qS Q).2.2 2) (nI h)) (by omega) (by decide) ?_
          refine wp_if_ne 148 dX10_nails_72 (by decide) (fun c3 => ?_) (fun c3 => ?_)
          · refine wp_iload_n dX10_nails_148 rfl 3 rfl ?_
            exact wp_iret hC rfl rfl dX10_nails_149 (pI_ok (by unfold wNails; rw [if_neg c1, if_neg c3, hdn c3]; obtain ⟨hX1, hy1⟩ := hX0.scr (hf.N (by decide) (by decide) (by decide)); exact ⟨rfl, hX1, hy0.trans hy1⟩))
          · have hup := c3
            refine wp_iload dX10_nails_75 4 rfl ?_
            refine wp_iload_n dX10_nails_77 rfl 2 rfl ?_
            refine wp_iconst (v := (-1)) dX10_nails_78 (by decide) ?_
            refine wp_ixor dX10_nails_79 ?_
            refine wp_iand dX10_nails_80 ?_
            refine wp_if_ne 142 dX10_nails_81 (by decide) (fun c4 => ?_) (fun c4 => ?_)
            · refine wp_iinc (v := nI (i + 1)) 4 rfl (by exact nI_1 i) [1, 2, 3, 4, 0] (by decide) rfl rfl rfl dX10_nails_142 ?_
              refine wp_goto 50 dX10_nails_145 (by decide) ?_
              exact ih_lp (i + 1) b F1 A1 (by omega) (bst_no hb (fun h => c4 h.1)) hdn hf (by omega)
            · refine wp_iload_n dX10_nails_84 rfl 3 rfl ?_
              refine wp_bipush (v := (-9)) dX10_nails_85 (by decide) ?_
              refine wp_icmp_eq 102 dX10_nails_87 (by decide) (fun c5 => ?_) (fun c5 => ?_)
              · refine wp_aload_n dX10_nails_102 rfl 0 rfl ?_
                refine wp_getO (q := 131) fX10_31 hR rfl (rfl) (by decide) (by decide) rfl dX10_nails_103 ?_
                refine wp_aload_n dX10_nails_106 rfl 0 rfl ?_
                refine wp_getO (q := 133) fX10_37 hR rfl (rfl) (by decide) (by decide) rfl dX10_nails_107 ?_
                refine wp_bipush (v := 15) dX10_nails_110 (by decide) ?_
                refine wp_callV (mm_siteS (av := [.ref 131, .ref 133, .int 15]) hC lX10_137 rfl rfl (Nat.le_of_ble_eq_true rfl) dX10_nails_112) (c_X10_copyRow l (k0 + 4) _ _ _ _ 131 133 15 rfl (by decide) (by decide) rfl (by decide) (by decide) (by decide) (by decide)) (by omega) (by decide) (by decide) ?_
                rintro F1 A3 _ _ ⟨rfl, hc3, hr3, rfl, rfl⟩
                have hU3 : isP A3 133 (qS Q) := fun k hk => (hc3 k hk).trans (hPr k hk)
                have hf3 : frG 30 30 133 F0 A F1 A3 := hf.trans (frG.A (Or.inr rfl) hr3)
                refine wp_aload_n dX10_nails_115 rfl 0 rfl ?_
                refine wp_getO (q := 133) fX10_37 hR rfl (rfl) (by decide) (by decide) rfl dX10_nails_116 ?_
                refine wp_bipush (v := 11) dX10_nails_119 (by decide) ?_
                refine wp_dup2 dX10_nails_121 rfl rfl ?_
                refine wp_iald 11 (rfl) (rfl) (by decide) ((show 11 < 15 from by omega)) dX10_nails_122 ?_
                refine wp_top (x' := (qS Q).2.2 4) (hU3 11 (by decide)) ?_
                refine wp_iload dX10_nails_123 4 rfl ?_
                refine wp_ior dX10_nails_125 ?_
                refine wp_iast 11 (rfl) (rfl) (by decide) ((show 11 < 15 from by omega)) dX10_nails_126 ?_
                obtain ⟨A4, hA4⟩ : ∃ z, z = u2 A3 133 11 (((qS Q).2.2 4) ||| (nI i)) := ⟨_, rfl⟩
                rw [← hA4]
                have hU4 : isP A4 133 (orN (qS Q) (nI i)) := by rw [hA4]; exact isP_11 hU3
                have hf4 : frG 30 30 133 F0 A F1 A4 := hf3.trans (frG.A (r0 := 133) (Or.inr rfl) (fun r hr => by rw [hA4, u2_ne hr]))
                have hMc := hf4.m (by decide) (by decide) (by decide) hM
                refine wp_aload_n dX10_nails_127 rfl 0 rfl ?_
                refine wp_iload_n dX10_nails_128 rfl 1 rfl ?_
                refine wp_callI (mm_siteV (av := [.int (nI h)]) hC lX10_234 (rfl) (by decide) ⟨_, rfl, rfl⟩ rfl rfl (Nat.le_of_ble_eq_true rfl) dX10_nails_129) (c_X10_holdsUp l k0 _ _ _ _ h (orN (qS Q) (nI i)) (qB Q) hR hMc hw hU4 hwS.1 hwS.2.2.2) (by omega) (by decide) ?_
                rintro _ F5 A5 _ _ ⟨rfl, hf5, rfl, rfl⟩
                have hf5 : frG 30 30 133 F0 A F5 A5 := hf4.trans ⟨hf5.1, hf5.2.1, fun r a b c _ => hf5.2.2 r a b c a⟩
                refine wp_top (x' := stayP (qB Q) (qS Q) h (nI i)) (stP_eq hup) ?_
                refine wp_if_eq 140 dX10_nails_132 (by decide) (fun c6 => ?_) (fun c6 => ?_)
                · refine wp_iload_n dX10_nails_140 rfl 3 rfl ?_
                  refine wp_istore_n [1, 2, 3, 0, 5] (by decide) rfl rfl rfl dX10_nails_141 rfl ?_
                  refine wp_iinc (v := nI (i + 1)) 4 rfl (by exact nI_1 i) [1, 2, 3, 4, 0] (by decide) rfl rfl rfl dX10_nails_142 ?_
                  refine wp_goto 50 dX10_nails_145 (by decide) ?_
                  exact ih_lp (i + 1) b F5 A5 (by omega) (bst_no hb (fun h => h.2 c6)) hdn hf5 (by omega)
                · refine wp_iload dX10_nails_135 4 rfl ?_
                  refine wp_goto 141 dX10_nails_137 (by decide) ?_
                  refine wp_istore_n [1, 2, 3, 0, 5] (by decide) rfl rfl rfl dX10_nails_141 rfl ?_
                  refine wp_iinc (v := nI (i + 1)) 4 rfl (by exact nI_1 i) [1, 2, 3, 4, 0] (by decide) rfl rfl rfl dX10_nails_142 ?_
                  refine wp_goto 50 dX10_nails_145 (by decide) ?_
                  exact ih_lp (i + 1) (nI i) F5 A5 (by omega) (bst_new hb (by omega) (Or.inl c5) ⟨c4, c6⟩) (fun h => absurd hup h) hf5 (by omega)
              · obtain ⟨n0, hn0, hb0⟩ : ∃ n0, n0 < i ∧ b = nI n0 := by rcases hb with ⟨h1, -⟩ | ⟨n0, h1, h2, -⟩; exact absurd h1 c5; exact ⟨n0, h1, h2⟩
                have hbi := bc_le i
                have hbn := bc_le n0
                refine wp_iload dX10_nails_90 4 rfl ?_
                refine wp_callP (e := nI (bc i)) (mm_siteS (av := [.int (nI i)]) hC lX10_228 rfl rfl (Nat.le_of_ble_eq_true rfl) dX10_nails_92) (c_X10_many l (k0 + 4) _ _ _ _ i (by omega)) (by omega) (by decide) ?_
                refine wp_iload_n dX10_nails_95 rfl 3 rfl ?_
                refine wp_top (x' := nI n0) (hb0) ?_
                refine wp_callP (e := nI (bc n0)) (mm_siteS (av := [.int (nI n0)]) hC lX10_228 rfl rfl (Nat.le_of_ble_eq_true rfl) dX10_nails_96) (c_X10_many l (k0 + 4) _ _ _ _ n0 (by omega)) (by omega) (by decide) ?_
                refine wp_icmp_ge 142 dX10_nails_99 (by decide) (fun c7 => ?_) (fun c7 => ?_)
                · replace c7 := (ix_le (a := bc n0) (b := bc i) (rfl) (rfl) (by omega) (by omega)).mp c7
                  refine wp_iinc (v := nI (i + 1)) 4 rfl (by exact nI_1 i) [1, 2, 3, 4, 0] (by decide) rfl rfl rfl dX10_nails_142 ?_
                  refine wp_goto 50 dX10_nails_145 (by decide) ?_
                  exact ih_lp (i + 1) b F1 A1 (by omega) (bst_skip hb hb0 hn0 (by omega) c7) hdn hf (by omega)
                · replace c7 := mt (ix_le (a := bc n0) (b := bc i) (rfl) (rfl) (by omega) (by omega)).mpr c7
                  refine wp_aload_n dX10_nails_102 rfl 0 rfl ?_
                  refine wp_getO (q := 131) fX10_31 hR rfl (rfl) (by decide) (by decide) rfl dX10_nails_103 ?_
                  refine wp_aload_n dX10_nails_106 rfl 0 rfl ?_
                  refine wp_getO (q := 133) fX10_37 hR rfl (rfl) (by decide) (by decide) rfl dX10_nails_107 ?_
                  refine wp_bipush (v := 15) dX10_nails_110 (by decide) ?_
                  refine wp_callV (mm_siteS (av := [.ref 131, .ref 133, .int 15]) hC lX10_137 rfl rfl (Nat.le_of_ble_eq_true rfl) dX10_nails_112) (c_X10_copyRow l (k0 + 4) _ _ _ _ 131 133 15 rfl (by decide) (by decide) rfl (by decide) (by decide) (by decide) (by decide)) (by omega) (by decide) (by decide) ?_
                  rintro F1 A3 _ _ ⟨rfl, hc3, hr3, rfl, rfl⟩
                  have hU3 : isP A3 133 (qS Q) := fun k hk => (hc3 k hk).trans (hPr k hk)
                  have hf3 : frG 30 30 133 F0 A F1 A3 := hf.trans (frG.A (Or.inr rfl) hr3)
                  refine wp_aload_n dX10_nails_115 rfl 0 rfl ?_
                  refine wp_getO (q := 133) fX10_37 hR rfl (rfl) (by decide) (by decide) rfl dX10_nails_116 ?_
                  refine wp_bipush (v := 11) dX10_nails_119 (by decide) ?_
                  refine wp_dup2 dX10_nails_121 rfl rfl ?_
                  refine wp_iald 11 (rfl) (rfl) (by decide) ((show 11 < 15 from by omega)) dX10_nails_122 ?_
                  refine wp_top (x' := (qS Q).2.2 4) (hU3 11 (by decide)) ?_
                  refine wp_iload dX10_nails_123 4 rfl ?_
                  refine wp_ior dX10_nails_125 ?_
                  refine wp_iast 11 (rfl) (rfl) (by decide) ((show 11 < 15 from by omega)) dX10_nails_126 ?_
                  obtain ⟨A4, hA4⟩ : ∃ z, z = u2 A3 133 11 (((qS Q).2.2 4) ||| (nI i)) := ⟨_, rfl⟩
                  rw [← hA4]
                  have hU4 : isP A4 133 (orN (qS Q) (nI i)) := by rw [hA4]; exact isP_11 hU3
                  have hf4 : frG 30 30 133 F0 A F1 A4 := hf3.trans (frG.A (r0 := 133) (Or.inr rfl) (fun r hr => by rw [hA4, u2_ne hr]))
                  have hMc := hf4.m (by decide) (by decide) (by decide) hM
                  refine wp_aload_n dX10_nails_127 rfl 0 rfl ?_
                  refine wp_iload_n dX10_nails_128 rfl 1 rfl ?_
                  refine wp_callI (mm_siteV (av := [.int (nI h)]) hC lX10_234 (rfl) (by decide) ⟨_, rfl, rfl⟩ rfl rfl (Nat.le_of_ble_eq_true rfl) dX10_nails_129) (c_X10_holdsUp l k0 _ _ _ _ h (orN (qS Q) (nI i)) (qB Q) hR hMc hw hU4 hwS.1 hwS.2.2.2) (by omega) (by decide) ?_
                  rintro _ F5 A5 _ _ ⟨rfl, hf5, rfl, rfl⟩
                  have hf5 : frG 30 30 133 F0 A F5 A5 := hf4.trans ⟨hf5.1, hf5.2.1, fun r a b c _ => hf5.2.2 r a b c a⟩
                  refine wp_top (x' := stayP (qB Q) (qS Q) h (nI i)) (stP_eq hup) ?_
                  refine wp_if_eq 140 dX10_nails_132 (by decide) (fun c8 => ?_) (fun c8 => ?_)
                  · refine wp_iload_n dX10_nails_140 rfl 3 rfl ?_
                    refine wp_istore_n [1, 2, 3, 0, 5] (by decide) rfl rfl rfl dX10_nails_141 rfl ?_
                    refine wp_iinc (v := nI (i + 1)) 4 rfl (by exact nI_1 i) [1, 2, 3, 4, 0] (by decide) rfl rfl rfl dX10_nails_142 ?_
                    refine wp_goto 50 dX10_nails_145 (by decide) ?_
                    exact ih_lp (i + 1) b F5 A5 (by omega) (bst_no hb (fun h => h.2 c8)) hdn hf5 (by omega)
                  · refine wp_iload dX10_nails_135 4 rfl ?_
                    refine wp_goto 141 dX10_nails_137 (by decide) ?_
                    refine wp_istore_n [1, 2, 3, 0, 5] (by decide) rfl rfl rfl dX10_nails_141 rfl ?_
                    refine wp_iinc (v := nI (i + 1)) 4 rfl (by exact nI_1 i) [1, 2, 3, 4, 0] (by decide) rfl rfl rfl dX10_nails_142 ?_
                    refine wp_goto 50 dX10_nails_145 (by decide) ?_
                    exact ih_lp (i + 1) (nI i) F5 A5 (by omega) (bst_new hb (by omega) (Or.inr ⟨n0, hb0, hn0, by omega⟩) ⟨c4, c8⟩) (fun h => absurd hup h) hf5 (by omega)
    exact lp (MM + 1) 0 (-9) F0 A (Nat.zero_le _) bst_0 (fun _ => rfl) (frG.refl _ _ _ _ _) (by omega)
  · rw [ite01, Classical.not_not] at c1
    refine wp_iconst (v := (-1)) dX10_nails_13 (by decide) ?_
    exact wp_iret hC rfl rfl dX10_nails_14 (pI_ok ⟨by unfold wNails; rw [if_pos c1], hX0, hy0⟩)

