/-- a party's choice (0: none; a husk and 1): the stand then, and its cost -/
def costP (B : BV) (S : SV) (t ch : Nat) : SV × Int32 := if ch = 0 then (S, 0) else if ch - 1 < B.1.1 then (if canB B S t (ch - 1) = 0 then (S, 0) else ((strikeP B S t (ch - 1)).1, 1)) else (S, 0)
def pairS (B : BV) (S : SV) (one other : Nat) : SV := (costP B (costP B S 0 one).1 1 other).1
/-- what a pair of choices is worth to the two -/
def pairW (B : BV) (S : SV) (one other : Nat) : Int32 × Int32 := (List.range' 0 B.1.1).foldl (fun q h => if upP ((pairS B S one other).2.2 2) (nI h) = 0 then (q.1 + (nI h + 1), q.2 + (5 - nI h)) else q) (-(costP B S 0 one).2, -(costP B (costP B S 0 one).1 1 other).2)
/-- is the pair at rest, by the worths w1, w2 (from choice i on, m more)? -/
def restP (w1 w2 : Nat → Int32) (one other : Nat) : Nat → Nat → Int32
  | _, 0 => 1
  | i, m + 1 => if w1 (one * 6 + other) < w1 (i * 6 + other) then 0 else if w2 (one * 6 + i) ≤ w2 (one * 6 + other) then restP w1 w2 one other (i + 1) m else 0
def cntP (w1 w2 : Nat → Int32) (n one : Nat) (q : Int32 × Int32) (other : Nat) : Int32 × Int32 := if restP w1 w2 one other 0 (n + 1) = 0 then q else (q.1 + 1, if q.1 = 0 then 10 * nI one + nI other else q.2)
/-- how many pairs are at rest, and the first one -/
def setlP (w1 w2 : Nat → Int32) (n : Nat) : Int32 × Int32 := (List.range' 0 (n + 1)).foldl (fun q one => (List.range' 0 (n + 1)).foldl (cntP w1 w2 n one) q) (0, -9)
theorem foldl_go {β : Type} {f : β → Nat → β} {i n : Nat} {q : β} (hi : i < n) : (List.range' i (n - i)).foldl f q = (List.range' (i + 1) (n - (i + 1))).foldl f (f q i) := by
  rw [show n - i = n - (i + 1) + 1 by omega, List.range'_succ, List.foldl_cons]
theorem isIn_m1 {n : Int32} : isIn (-1) n = 0 := by unfold isIn; rw [if_pos (by decide)]
theorem restP_cong {v1 v2 w1 w2 : Nat → Int32} {n one other : Nat} (ho : one ≤ n) (hq : other ≤ n) (h1 : ∀ i j, i ≤ n → j ≤ n → v1 (i * 6 + j) = w1 (i * 6 + j)) (h2 : ∀ i j, i ≤ n → j ≤ n → v2 (i * 6 + j) = w2 (i * 6 + j)) : ∀ m i, i + m ≤ n + 1 → restP v1 v2 one other i m = restP w1 w2 one other i m
  | 0, _, _ => rfl
  | m + 1, i, h => by
    unfold restP
    rw [h1 one other ho hq, h1 i other (by omega) hq, h2 one i ho (by omega), h2 one other ho hq, restP_cong ho hq h1 h2 m (i + 1) (by omega)]
set_option maxRecDepth 100000 in
set_option maxHeartbeats 600000 in
theorem c_X3_costOf (l : Launch) (k : Nat) (F A : mmF) (R : mmR) (G : mmG) (b t ch : Nat) (S : SV) (B : BV) (hR : mm_RL R) (hb : mm_K b = 1) (hS : isS F A 83 S) (hB : isB F A b B) (hw : wfB B) (ht : t < B.1.2.1) (hch : ch ≤ 5) : Meets l hX3_costOf (k + 11) 144 144 [.ref 80, .ref b, .int (nI t), .int (nI ch)] F A R G (pI (fun v F1 A1 R1 G1 => v = (costP B S t ch).2 ∧ isS F1 A1 83 (costP B S t ch).1 ∧ fr 83 F A F1 A1 ∧ R = R1 ∧ G = G1)) := by
  refine mm_start rfl (Nat.le_of_ble_eq_true rfl) (fun X hC => ?_)
  show WP hX3_costOf X 144 0 [(0, .ref 80), (1, .ref b), (2, .int (nI t)), (3, .int (nI ch))] [] F A R G
  have hw1 := hw.1
  refine wp_iload_n dX3_costOf_0 rfl 3 rfl ?_
  refine wp_iconst (v := 1) dX3_costOf_1 (by decide) ?_
  refine wp_isub dX3_costOf_2 ?_
  rcases Nat.eq_zero_or_pos ch with hz | hz
  · subst hz
    refine wp_top (x' := -1) (by decide) ?_
    refine wp_istore [1, 2, 3, 4, 0] (by decide) rfl rfl rfl dX3_costOf_3 ?_
    refine wp_aload_n dX3_costOf_5 rfl 1 rfl ?_
    refine wp_iload dX3_costOf_6 4 rfl ?_
    refine wp_callP (mm_siteV (av := [.int (-1)]) hC lX3_57 (hb) (bo_l0 hb) ⟨_, rfl, rfl⟩ rfl rfl (Nat.le_of_ble_eq_true rfl) dX3_costOf_8) (cB_isHusk l (k + 10) _ _ _ _ _ (-1) B hb hB) (by omega) (by decide) ?_
    refine wp_top (x' := 0) isIn_m1 ?_
    refine wp_if_eq 28 dX3_costOf_11 (by decide) (fun c1 => ?_) (fun c1 => ?_)
    · refine wp_iconst (v := 0) dX3_costOf_28 (by decide) ?_
      exact wp_iret hC rfl rfl dX3_costOf_29 (pI_ok ⟨rfl, hS, fr.refl 83 F A, rfl, rfl⟩)
    · exact absurd rfl c1
  · refine wp_top (x' := nI (ch - 1)) (ix_sub (a := ch) (b := 1) rfl rfl (by omega)) ?_
    refine wp_istore [1, 2, 3, 4, 0] (by decide) rfl rfl rfl dX3_costOf_3 ?_
    refine wp_aload_n dX3_costOf_5 rfl 1 rfl ?_
    refine wp_iload dX3_costOf_6 4 rfl ?_
    refine wp_callP (mm_siteV (av := [.int (nI (ch - 1))]) hC lX3_57 (hb) (bo_l0 hb) ⟨_, rfl, rfl⟩ rfl rfl (Nat.le_of_ble_eq_true rfl) dX3_costOf_8) (cN_isHusk l (k + 10) _ _ _ _ _ (ch - 1) B hb hB hw (by omega)) (by omega) (by decide) ?_
    refine wp_if_eq 28 dX3_costOf_11 (by decide) (fun c2 => ?_) (fun c2 => ?_)
    · rw [ite01] at c2
      refine wp_iconst (v := 0) dX3_costOf_28 (by decide) ?_
      exact wp_iret hC rfl rfl dX3_costOf_29 (pI_ok (by rw [show costP B S t ch = (S, 0) from by unfold costP; rw [if_neg (by omega)]; simp [*]]; exact ⟨rfl, hS, fr.refl 83 F A, rfl, rfl⟩))
    · rw [ite01, Classical.not_not] at c2
      have chh := c2
      refine wp_aload_n dX3_costOf_14 rfl 0 rfl ?_
      refine wp_getO (q := 83) fX3_21 hR rfl (rfl) (by decide) (by decide) rfl dX3_costOf_15 ?_
      refine wp_aload_n dX3_costOf_18 rfl 1 rfl ?_
      refine wp_iload_n dX3_costOf_19 rfl 2 rfl ?_
      refine wp_iload dX3_costOf_20 4 rfl ?_
      refine wp_callP (e := canB B S t (ch - 1)) (mm_siteV (av := [.ref b, .int (nI t), .int (nI (ch - 1))]) hC lX3_60 (rfl) (by decide) ⟨_, rfl, rfl⟩ rfl rfl (Nat.le_of_ble_eq_true rfl) dX3_costOf_22) (c_X7_canBeThrownAt l (k + 8) _ _ _ _ _ _ t (ch - 1) S B hR rfl hb hS hB hw ht chh) (by omega) (by decide) ?_
      refine wp_if_ne 30 dX3_costOf_25 (by decide) (fun c3 => ?_) (fun c3 => ?_)
      · refine wp_aload_n dX3_costOf_30 rfl 0 rfl ?_
        refine wp_getO (q := 83) fX3_21 hR rfl (rfl) (by decide) (by decide) rfl dX3_costOf_31 ?_
        refine wp_aload_n dX3_costOf_34 rfl 1 rfl ?_
        refine wp_iload_n dX3_costOf_35 rfl 2 rfl ?_
        refine wp_iload dX3_costOf_36 4 rfl ?_
        refine wp_callI (mm_siteV (av := [.ref b, .int (nI t), .int (nI (ch - 1))]) hC lX3_64 (rfl) (by decide) ⟨_, rfl, rfl⟩ rfl rfl (Nat.le_of_ble_eq_true rfl) dX3_costOf_38) (c_X7_strike l k _ _ _ _ _ _ t (ch - 1) S B hR rfl hb hS hB hw ht chh) (by omega) (by decide) ?_
        rintro _ F3 A3 _ _ ⟨rfl, hS3, hg3, rfl, rfl⟩
        refine wp_pop dX3_costOf_41 rfl ?_
        refine wp_iconst (v := 1) dX3_costOf_42 (by decide) ?_
        exact wp_iret hC rfl rfl dX3_costOf_43 (pI_ok (by rw [show costP B S t ch = ((strikeP B S t (ch - 1)).1, 1) from by unfold costP; rw [if_neg (by omega)]; simp [*]]; exact ⟨rfl, hS3, hg3, rfl, rfl⟩))
      · refine wp_iconst (v := 0) dX3_costOf_28 (by decide) ?_
        exact wp_iret hC rfl rfl dX3_costOf_29 (pI_ok (by rw [show costP B S t ch = (S, 0) from by unfold costP; rw [if_neg (by omega)]; simp [*]]; exact ⟨rfl, hS, fr.refl 83 F A, rfl, rfl⟩))

set_option maxRecDepth 100000 in
set_option maxHeartbeats 600000 in
theorem c_X3_weigh (l : Launch) (k : Nat) (F A : mmF) (R : mmR) (G : mmG) (b : Nat) (one other : Nat) (S : SV) (B : BV) (hR : mm_RL R) (hb : mm_K b = 1) (hS : isS F A 3 S) (hB : isB F A b B) (hw : wfB B) (h2 : 2 ≤ B.1.2.1) (ho : one ≤ 5) (hq : other ≤ 5) : Meets l hX3_weigh (k + 12) 144 144 [.ref 80, .ref b, .ref 3, .int (nI one), .int (nI other)] F A R G (pV (fun F1 A1 R1 G1 => A1 81 = va_up (A 81) (one * 6 + other) (pairW B S one other).1 ∧ A1 82 = va_up (A 82) (one * 6 + other) (pairW B S one other).2 ∧ (∀ r, r ≠ 83 → F1 r = F r) ∧ (∀ r, r ≠ 81 → r ≠ 82 → r ≠ 84 → r ≠ 85 → A1 r = A r) ∧ R = R1 ∧ G = G1)) := by
  refine mm_start rfl (Nat.le_of_ble_eq_true rfl) (fun X hC => ?_)
  show WP hX3_weigh X 144 0 [(0, .ref 80), (1, .ref b), (2, .ref 3), (3, .int (nI one)), (4, .int (nI other))] [] F A R G
  have hw1 := hw.1
  have hb2 : 103 ≤ b := by rcases bo_f hb with rfl | rfl <;> decide
  refine wp_aload_n dX3_weigh_0 rfl 0 rfl ?_
  refine wp_getO (q := 83) fX3_21 hR rfl (rfl) (by decide) (by decide) rfl dX3_weigh_1 ?_
  refine wp_aload_n dX3_weigh_4 rfl 2 rfl ?_
  refine wp_callV (mm_siteV (av := [.ref 3]) hC lX3_45 (rfl) (by decide) ⟨_, rfl, rfl⟩ rfl rfl (Nat.le_of_ble_eq_true rfl) dX3_weigh_5) (c_X7_becomeAs l (k + 9) _ _ _ _ _ _ S hR (rfl) (rfl) (by decide) hS) (by omega) (by decide) (by decide) ?_
  rintro F3 A3 _ _ ⟨hS3, hg3, rfl, rfl⟩
  have hB3 := hg3.b (rfl) hb hB
  refine wp_iload_n dX3_weigh_8 rfl 3 rfl ?_
  refine wp_bipush (v := 6) dX3_weigh_9 (by decide) ?_
  refine wp_imul dX3_weigh_11 ?_
  refine wp_iload dX3_weigh_12 4 rfl ?_
  refine wp_iadd dX3_weigh_14 ?_
  refine wp_top (x' := nI (one * 6 + other)) (ix_add (ix_mul rfl rfl) rfl) ?_
  refine wp_istore [1, 2, 3, 4, 5, 0] (by decide) rfl rfl rfl dX3_weigh_15 ?_
  refine wp_aload_n dX3_weigh_17 rfl 0 rfl ?_
  refine wp_getO (q := 81) fX3_11 hR rfl (rfl) (by decide) (by decide) rfl dX3_weigh_18 ?_
  refine wp_iload dX3_weigh_21 5 rfl ?_
  refine wp_aload_n dX3_weigh_23 rfl 0 rfl ?_
  refine wp_aload_n dX3_weigh_24 rfl 1 rfl ?_
  refine wp_iconst (v := 0) dX3_weigh_25 (by decide) ?_
  refine wp_iload_n dX3_weigh_26 rfl 3 rfl ?_
  refine wp_callI (mm_siteV (av := [.ref b, .int 0, .int (nI one)]) hC lX3_49 (rfl) (by decide) ⟨_, rfl, rfl⟩ rfl rfl (Nat.le_of_ble_eq_true rfl) dX3_weigh_27) (c_X3_costOf l k _ _ _ _ b 0 one S B hR hb hS3 hB3 hw (by omega) (by omega)) (by omega) (by decide) ?_
  rintro _ F4 A4 _ _ ⟨rfl, hS4, hg4, rfl, rfl⟩
  have hB4 := hg4.b rfl hb hB3
  refine wp_ineg dX3_weigh_30 ?_
  refine wp_iast (one * 6 + other) (rfl) (rfl) (by decide) ((show one * 6 + other < 36 from by omega)) dX3_weigh_31 ?_
  refine wp_aload_n dX3_weigh_32 rfl 0 rfl ?_
  refine wp_getO (q := 82) fX3_15 hR rfl (rfl) (by decide) (by decide) rfl dX3_weigh_33 ?_
  refine wp_iload dX3_weigh_36 5 rfl ?_
  refine wp_aload_n dX3_weigh_38 rfl 0 rfl ?_
  refine wp_aload_n dX3_weigh_39 rfl 1 rfl ?_
  refine wp_iconst (v := 1) dX3_weigh_40 (by decide) ?_
  refine wp_iload dX3_weigh_41 4 rfl ?_
  obtain ⟨A5, hA5⟩ : ∃ z, z = u2 A4 81 (one * 6 + other) (-((costP B S 0 one).2)) := ⟨_, rfl⟩
  rw [← hA5]
  have hS5 : isS F4 A5 83 (costP B S 0 one).1 := by rw [hA5]; exact ⟨by simpa [u2, va_up] using hS4.1, by simpa [u2, va_up] using hS4.2.1, hS4.2.2⟩
  have hB5 : isB F4 A5 b B := by rw [hA5]; exact ⟨hB4.1, by simpa [u2, va_up, show ∀ j, ¬ b + j = 81 from fun j => by omega] using hB4.2⟩
  refine wp_callI (mm_siteV (av := [.ref b, .int 1, .int (nI other)]) hC lX3_49 (rfl) (by decide) ⟨_, rfl, rfl⟩ rfl rfl (Nat.le_of_ble_eq_true rfl) dX3_weigh_43) (c_X3_costOf l k _ _ _ _ b 1 other (costP B S 0 one).1 B hR hb hS5 hB5 hw (by omega) (by omega)) (by omega) (by decide) ?_
  rintro _ F6 A6 _ _ ⟨rfl, hS6, hg6, rfl, rfl⟩
  have hB6 := hg6.b rfl hb hB5
  refine wp_ineg dX3_weigh_46 ?_
  refine wp_iast (one * 6 + other) (rfl) (rfl) (by decide) ((show one * 6 + other < 36 from by omega)) dX3_weigh_47 ?_
  obtain ⟨A7, hA7⟩ : ∃ z, z = u2 A6 82 (one * 6 + other) (-((costP B (costP B S 0 one).1 1 other).2)) := ⟨_, rfl⟩
  rw [← hA7]
  have hS7 : isS F6 A7 83 (pairS B S one other) := by rw [hA7]; exact ⟨by simpa [u2, va_up, pairS] using hS6.1, by simpa [u2, va_up, pairS] using hS6.2.1, hS6.2.2⟩
  have hB7 : isB F6 A7 b B := by rw [hA7]; exact ⟨hB6.1, by simpa [u2, va_up, show ∀ j, ¬ b + j = 82 from fun j => by omega] using hB6.2⟩
  have h81 : A7 81 = va_up (A 81) (one * 6 + other) (-(costP B S 0 one).2) := by rw [hA7]; simp only [u2, va_up_ne _ _ (show 81 ≠ 82 by decide)]; rw [hg6.2 81 (by decide) (by decide), hA5]; simp only [u2, va_up_self]; rw [hg4.2 81 (by decide) (by decide), hg3.2 81 (by decide) (by decide)]
  have h82 : A7 82 = va_up (A 82) (one * 6 + other) (-(costP B (costP B S 0 one).1 1 other).2) := by rw [hA7]; simp only [u2, va_up_self]; rw [hg6.2 82 (by decide) (by decide), hA5]; simp only [u2, va_up_ne _ _ (show 82 ≠ 81 by decide)]; rw [hg4.2 82 (by decide) (by decide), hg3.2 82 (by decide) (by decide)]
  have hFr : ∀ r, r ≠ 83 → F6 r = F r := fun r hr => (hg6.1 r hr).trans ((hg4.1 r hr).trans (hg3.1 r hr))
  have hAr : ∀ r, r ≠ 81 → r ≠ 82 → r ≠ 84 → r ≠ 85 → A7 r = A r := fun r h1 h2 h3 h4 => by rw [hA7]; simp only [u2, va_up_ne _ _ h2]; rw [hg6.2 r h3 h4, hA5]; simp only [u2, va_up_ne _ _ h1]; rw [hg4.2 r h3 h4, hg3.2 r h3 h4]
  refine wp_iconst (v := 0) dX3_weigh_48 (by decide) ?_
  refine wp_istore [1, 2, 3, 4, 5, 6, 0] (by decide) rfl rfl rfl dX3_weigh_49 ?_
  have lp : ∀ (nn : Nat) (h : Nat) (q : Int32 × Int32) (A1 : mmF), (h ≤ B.1.1) → (pairW B S one other = (List.range' h (B.1.1 - h)).foldl (fun q h => if upP ((pairS B S one other).2.2 2) (nI h) = 0 then (q.1 + (nI h + 1), q.2 + (5 - nI h)) else q) q) → (A1 81 = va_up (A 81) (one * 6 + other) q.1) → (A1 82 = va_up (A 82) (one * 6 + other) q.2) → (∀ r, r ≠ 81 → r ≠ 82 → A1 r = A7 r) → B.1.1 - h < nn → WP hX3_weigh X 144 51 [(0, .ref 80), (1, .ref b), (2, .ref 3), (3, .int (nI one)), (4, .int (nI other)), (5, .int (nI (one * 6 + other))), (6, .int (nI h))] [] F6 A1 R G := by
    intro nn
    induction nn with
    | zero => intro h q A1 _ _ _ _ _ hm; exact absurd hm (Nat.not_lt_zero _)
    | succ nn ih_lp =>
      intro h q A1 hh hv h81 h82 hr1 hm_lp
      have hS1 : isS F6 A1 83 (pairS B S one other) := by unfold isS; rw [hr1 84 (by decide) (by decide), hr1 85 (by decide) (by decide)]; exact hS7
      have hB1 : isB F6 A1 b B := ⟨hB7.1, by rw [hr1 (b + 1) (by omega) (by omega), hr1 (b + 2) (by omega) (by omega), hr1 (b + 3) (by omega) (by omega), hr1 (b + 4) (by omega) (by omega), hr1 (b + 5) (by omega) (by omega), hr1 (b + 6) (by omega) (by omega), hr1 (b + 7) (by omega) (by omega), hr1 (b + 8) (by omega) (by omega), hr1 (b + 9) (by omega) (by omega)]; exact hB7.2⟩
      refine wp_iload dX3_weigh_51 6 rfl ?_
      refine wp_aload_n dX3_weigh_53 rfl 1 rfl ?_
      refine wp_getI fX3_32 rfl (hb) (bo_l0 hb) dX3_weigh_54 ?_
      refine wp_top (x' := nI B.1.1) (hB1.1.1) ?_
      refine wp_icmp_ge 106 dX3_weigh_57 (by decide) (fun c1 => ?_) (fun c1 => ?_)
      · replace c1 := (ix_le (a := B.1.1) (b := h) (rfl) (rfl) (by omega) (by omega)).mp c1
        exact wp_vret hC rfl dX3_weigh_106 (pV_ok (by rw [hv, show B.1.1 - h = 0 by omega]; exact ⟨h81, h82, hFr, fun r h1 h2 h3 h4 => (hr1 r h1 h2).trans (hAr r h1 h2 h3 h4), rfl, rfl⟩))
      · replace c1 := mt (ix_le (a := B.1.1) (b := h) (rfl) (rfl) (by omega) (by omega)).mpr c1
        refine wp_aload_n dX3_weigh_60 rfl 0 rfl ?_
        refine wp_getO (q := 83) fX3_21 hR rfl (rfl) (by decide) (by decide) rfl dX3_weigh_61 ?_
        refine wp_iload dX3_weigh_64 6 rfl ?_
        refine wp_callP (e := upP ((pairS B S one other).2.2 2) (nI h)) (mm_siteV (av := [.int (nI h)]) hC lX3_53 (rfl) (by decide) ⟨_, rfl, rfl⟩ rfl rfl (Nat.le_of_ble_eq_true rfl) dX3_weigh_66) (cS_isUp l (k + 10) _ _ _ _ _ _ _ rfl hS1) (by omega) (by decide) ?_
        refine wp_if_ne 100 dX3_weigh_69 (by decide) (fun c2 => ?_) (fun c2 => ?_)
        · refine wp_iinc (v := nI (h + 1)) 6 rfl (by exact nI_1 h) [1, 2, 3, 4, 5, 6, 0] (by decide) rfl rfl rfl dX3_weigh_100 ?_
          refine wp_goto 51 dX3_weigh_103 (by decide) ?_
          exact ih_lp (h + 1) q _ (by omega) (by rw [hv, show B.1.1 - h = B.1.1 - (h + 1) + 1 by omega, List.range'_succ, List.foldl_cons]; simp only [*, if_true, if_false]) h81 h82 hr1 (by omega)
        · refine wp_aload_n dX3_weigh_72 rfl 0 rfl ?_
          refine wp_getO (q := 81) fX3_11 hR rfl (rfl) (by decide) (by decide) rfl dX3_weigh_73 ?_
          refine wp_iload dX3_weigh_76 5 rfl ?_
          refine wp_dup2 dX3_weigh_78 rfl rfl ?_
          refine wp_iald (one * 6 + other) (rfl) (rfl) (by decide) ((show one * 6 + other < 36 from by omega)) dX3_weigh_79 ?_
          refine wp_top (x' := q.1) (by rw [h81, va_up_self]) ?_
          refine wp_iload dX3_weigh_80 6 rfl ?_
          refine wp_iconst (v := 1) dX3_weigh_82 (by decide) ?_
          refine wp_iadd dX3_weigh_83 ?_
          refine wp_iadd dX3_weigh_84 ?_
          refine wp_iast (one * 6 + other) (rfl) (rfl) (by decide) ((show one * 6 + other < 36 from by omega)) dX3_weigh_85 ?_
          refine wp_aload_n dX3_weigh_86 rfl 0 rfl ?_
          refine wp_getO (q := 82) fX3_15 hR rfl (rfl) (by decide) (by decide) rfl dX3_weigh_87 ?_
          refine wp_iload dX3_weigh_90 5 rfl ?_
          refine wp_dup2 dX3_weigh_92 rfl rfl ?_
          refine wp_iald (one * 6 + other) (rfl) (rfl) (by decide) ((show one * 6 + other < 36 from by omega)) dX3_weigh_93 ?_
          refine wp_top (x' := q.2) (by simp only [u2, va_up_ne _ _ (show 82 ≠ 81 by decide)]; rw [h82, va_up_self]) ?_
          refine wp_iconst (v := 5) dX3_weigh_94 (by decide) ?_
          refine wp_iload dX3_weigh_95 6 rfl ?_
          refine wp_isub dX3_weigh_97 ?_
          refine wp_iadd dX3_weigh_98 ?_
          refine wp_iast (one * 6 + other) (rfl) (rfl) (by decide) ((show one * 6 + other < 36 from by omega)) dX3_weigh_99 ?_
          refine wp_iinc (v := nI (h + 1)) 6 rfl (by exact nI_1 h) [1, 2, 3, 4, 5, 6, 0] (by decide) rfl rfl rfl dX3_weigh_100 ?_
          refine wp_goto 51 dX3_weigh_103 (by decide) ?_
          exact ih_lp (h + 1) (q.1 + (nI h + 1), q.2 + (5 - nI h)) _ (by omega) (by rw [hv, show B.1.1 - h = B.1.1 - (h + 1) + 1 by omega, List.range'_succ, List.foldl_cons]; simp only [*, if_true, if_false]) (by simp only [u2, va_up_ne _ _ (show 81 ≠ 82 by decide), va_up_self]; rw [h81, bx_uu]) (by simp only [u2, va_up_ne _ _ (show 82 ≠ 81 by decide), va_up_self]; rw [h82, bx_uu]) (fun r h1 h2 => by simp only [u2, va_up_ne _ _ h2, va_up_ne _ _ h1]; exact hr1 r h1 h2) (by omega)
  exact lp (B.1.1 + 1) 0 _ A7 (Nat.zero_le _) rfl h81 h82 (fun _ _ _ => rfl) (by omega)

set_option maxRecDepth 100000 in
set_option maxHeartbeats 600000 in
theorem c_X3_isRest (l : Launch) (k : Nat) (F A : mmF) (R : mmR) (G : mmG) (n one other : Nat) (hR : mm_RL R) (hn : n ≤ 5) (ho : one ≤ n) (hq : other ≤ n) : Meets l hX3_isRest k 144 144 [.ref 80, .int (nI n), .int (nI one), .int (nI other)] F A R G (pP (restP (A 81) (A 82) one other 0 (n + 1)) F A R G) := by
  refine mm_start rfl (Nat.le_of_ble_eq_true rfl) (fun X hC => ?_)
  show WP hX3_isRest X 144 0 [(0, .ref 80), (1, .int (nI n)), (2, .int (nI one)), (3, .int (nI other))] [] F A R G
  refine wp_iload_n dX3_isRest_0 rfl 2 rfl ?_
  refine wp_bipush (v := 6) dX3_isRest_1 (by decide) ?_
  refine wp_imul dX3_isRest_3 ?_
  refine wp_iload_n dX3_isRest_4 rfl 3 rfl ?_
  refine wp_iadd dX3_isRest_5 ?_
  refine wp_istore [1, 2, 3, 4, 0] (by decide) rfl rfl rfl dX3_isRest_6 ?_
  refine wp_iconst (v := 0) dX3_isRest_8 (by decide) ?_
  refine wp_istore [1, 2, 3, 4, 5, 0] (by decide) rfl rfl rfl dX3_isRest_9 ?_
  have lp : ∀ (nn : Nat) (i : Nat), (i ≤ n + 1) → (restP (A 81) (A 82) one other 0 (n + 1) = restP (A 81) (A 82) one other i (n + 1 - i)) → n + 1 - i < nn → WP hX3_isRest X 144 11 [(0, .ref 80), (1, .int (nI n)), (2, .int (nI one)), (3, .int (nI other)), (4, .int (((nI one) * 6) + (nI other))), (5, .int (nI i))] [] F A R G := by
    intro nn
    induction nn with
    | zero => intro i _ _ hm; exact absurd hm (Nat.not_lt_zero _)
    | succ nn ih_lp =>
      intro i hi hv hm_lp
      refine wp_iload dX3_isRest_11 5 rfl ?_
      refine wp_iload_n dX3_isRest_13 rfl 1 rfl ?_
      refine wp_icmp_gt 69 dX3_isRest_14 (by decide) (fun c1 => ?_) (fun c1 => ?_)
      · replace c1 := (ix_lt (a := n) (b := i) (rfl) (rfl) (by omega) (by omega)).mp c1
        refine wp_iconst (v := 1) dX3_isRest_69 (by decide) ?_
        exact wp_iret hC rfl rfl dX3_isRest_70 (pP_ok (by rw [hv, show n + 1 - i = 0 by omega]; rfl))
      · replace c1 := mt (ix_lt (a := n) (b := i) (rfl) (rfl) (by omega) (by omega)).mpr c1
        refine wp_aload_n dX3_isRest_17 rfl 0 rfl ?_
        refine wp_getO (q := 81) fX3_11 hR rfl (rfl) (by decide) (by decide) rfl dX3_isRest_18 ?_
        refine wp_iload dX3_isRest_21 5 rfl ?_
        refine wp_bipush (v := 6) dX3_isRest_23 (by decide) ?_
        refine wp_imul dX3_isRest_25 ?_
        refine wp_iload_n dX3_isRest_26 rfl 3 rfl ?_
        refine wp_iadd dX3_isRest_27 ?_
        refine wp_iald ((i * 6) + other) (ix_add (ix_mul rfl rfl) rfl) (rfl) (by decide) ((show (i * 6) + other < 36 from by omega)) dX3_isRest_28 ?_
        refine wp_aload_n dX3_isRest_29 rfl 0 rfl ?_
        refine wp_getO (q := 81) fX3_11 hR rfl (rfl) (by decide) (by decide) rfl dX3_isRest_30 ?_
        refine wp_iload dX3_isRest_33 4 rfl ?_
        refine wp_iald ((one * 6) + other) (ix_add (ix_mul rfl rfl) rfl) (rfl) (by decide) ((show (one * 6) + other < 36 from by omega)) dX3_isRest_35 ?_
        refine wp_icmp_gt 61 dX3_isRest_36 (by decide) (fun c2 => ?_) (fun c2 => ?_)
        · refine wp_iconst (v := 0) dX3_isRest_61 (by decide) ?_
          exact wp_iret hC rfl rfl dX3_isRest_62 (pP_ok (by rw [hv, show n + 1 - i = n + 1 - (i + 1) + 1 by omega, restP]; simp only [*, if_true, if_false]))
        · refine wp_aload_n dX3_isRest_39 rfl 0 rfl ?_
          refine wp_getO (q := 82) fX3_15 hR rfl (rfl) (by decide) (by decide) rfl dX3_isRest_40 ?_
          refine wp_iload_n dX3_isRest_43 rfl 2 rfl ?_
          refine wp_bipush (v := 6) dX3_isRest_44 (by decide) ?_
          refine wp_imul dX3_isRest_46 ?_
          refine wp_iload dX3_isRest_47 5 rfl ?_
          refine wp_iadd dX3_isRest_49 ?_
          refine wp_iald ((one * 6) + i) (ix_add (ix_mul rfl rfl) rfl) (rfl) (by decide) ((show (one * 6) + i < 36 from by omega)) dX3_isRest_50 ?_
          refine wp_aload_n dX3_isRest_51 rfl 0 rfl ?_
          refine wp_getO (q := 82) fX3_15 hR rfl (rfl) (by decide) (by decide) rfl dX3_isRest_52 ?_
          refine wp_iload dX3_isRest_55 4 rfl ?_
          refine wp_iald ((one * 6) + other) (ix_add (ix_mul rfl rfl) rfl) (rfl) (by decide) ((show (one * 6) + other < 36 from by omega)) dX3_isRest_57 ?_
          refine wp_icmp_le 63 dX3_isRest_58 (by decide) (fun c3 => ?_) (fun c3 => ?_)
          · refine wp_iinc (v := nI (i + 1)) 5 rfl (by exact nI_1 i) [1, 2, 3, 4, 5, 0] (by decide) rfl rfl rfl dX3_isRest_63 ?_
            refine wp_goto 11 dX3_isRest_66 (by decide) ?_
            exact ih_lp (i + 1) (by omega) (by rw [hv, show n + 1 - i = n + 1 - (i + 1) + 1 by omega, restP]; simp only [*, if_true, if_false]) (by omega)
          · refine wp_iconst (v := 0) dX3_isRest_61 (by decide) ?_
            exact wp_iret hC rfl rfl dX3_isRest_62 (pP_ok (by rw [hv, show n + 1 - i = n + 1 - (i + 1) + 1 by omega, restP]; simp only [*, if_true, if_false]))
  exact lp ((n + 1) + 1) 0 (Nat.zero_le _) rfl (by omega)

def pw1 (B : BV) (S : SV) (x : Nat) : Int32 := (pairW B S (x / 6) (x % 6)).1
def pw2 (B : BV) (S : SV) (x : Nat) : Int32 := (pairW B S (x / 6) (x % 6)).2
def restsP (B : BV) (S : SV) : Int32 × Int32 := setlP (pw1 B S) (pw2 B S) B.1.1
theorem pw_at {B : BV} {S : SV} {i j : Nat} (hj : j < 6) : pw1 B S (i * 6 + j) = (pairW B S i j).1 ∧ pw2 B S (i * 6 + j) = (pairW B S i j).2 := by
  unfold pw1 pw2
  rw [show (i * 6 + j) / 6 = i by omega, show (i * 6 + j) % 6 = j by omega]
  exact ⟨rfl, rfl⟩
/-- the worths are laid for the pairs ahead of (one, other) -/
def laid (B : BV) (S : SV) (A : mmF) (one other : Nat) : Prop := ∀ i j, j ≤ B.1.1 → (i < one ∨ (i = one ∧ j < other)) → A 81 (i * 6 + j) = (pairW B S i j).1 ∧ A 82 (i * 6 + j) = (pairW B S i j).2
theorem laid_step {B : BV} {S : SV} {A A1 : mmF} {one other : Nat} (hn : B.1.1 ≤ 5) (ho : other ≤ B.1.1) (h : laid B S A one other) (h1 : A1 81 = va_up (A 81) (one * 6 + other) (pairW B S one other).1) (h2 : A1 82 = va_up (A 82) (one * 6 + other) (pairW B S one other).2) : laid B S A1 one (other + 1) := by
  intro i j hj hc
  rw [h1, h2]
  by_cases e : i = one ∧ j = other
  · obtain ⟨rfl, rfl⟩ := e; simp [va_up_self]
  · have hne : i * 6 + j ≠ one * 6 + other := by omega
    rw [va_up_ne _ _ hne, va_up_ne _ _ hne]
    exact h i j hj (by omega)
set_option maxRecDepth 100000 in
set_option maxHeartbeats 600000 in
theorem c_X3_settle (l : Launch) (k : Nat) (F A : mmF) (R : mmR) (G : mmG) (b : Nat)  (S : SV) (B : BV) (hR : mm_RL R) (hb : mm_K b = 1) (hS : isS F A 3 S) (hB : isB F A b B) (hw : wfB B) (h2 : 2 ≤ B.1.2.1) : Meets l hX3_settle (k + 13) 144 144 [.ref 80, .ref b, .ref 3] F A R G (pV (fun F1 A1 R1 G1 => F1 80 3 = (restsP B S).1 ∧ F1 80 4 = (restsP B S).2 ∧ frI 80 85 F A F1 A1 ∧ R = R1 ∧ G = G1)) := by
  refine mm_start rfl (Nat.le_of_ble_eq_true rfl) (fun X hC => ?_)
  show WP hX3_settle X 144 0 [(0, .ref 80), (1, .ref b), (2, .ref 3)] [] F A R G
  have hw1 := hw.1
  have hb2 : 103 ≤ b := by rcases bo_f hb with rfl | rfl <;> decide
  have hS0 := hS
  have hB0 := hB
  refine wp_iconst (v := 0) dX3_settle_0 (by decide) ?_
  refine wp_istore_n [1, 2, 3, 0] (by decide) rfl rfl rfl dX3_settle_1 rfl ?_
  have la : ∀ (na : Nat) (one : Nat) (F1 A1 : mmF), (one ≤ B.1.1 + 1) → (laid B S A1 one 0) → (frI 80 85 F A F1 A1) → B.1.1 + 1 - one < na → WP hX3_settle X 144 2 [(0, .ref 80), (1, .ref b), (2, .ref 3), (3, .int (nI one))] [] F1 A1 R G := by
    intro na
    induction na with
    | zero => intro one F1 A1 _ _ _ hm; exact absurd hm (Nat.not_lt_zero _)
    | succ na ih_la =>
      intro one F1 A1 h1 hl hf hm_la
      have hB := hf.b (by omega) hB0
      have hS := hf.s (c := 3) (by decide) hS0
      refine wp_iload_n dX3_settle_2 rfl 3 rfl ?_
      refine wp_aload_n dX3_settle_3 rfl 1 rfl ?_
      refine wp_getI fX3_32 rfl (hb) (bo_l0 hb) dX3_settle_4 ?_
      refine wp_top (x' := nI B.1.1) (hB.1.1) ?_
      refine wp_icmp_gt 43 dX3_settle_7 (by decide) (fun c1 => ?_) (fun c1 => ?_)
      · replace c1 := (ix_lt (a := B.1.1) (b := one) (rfl) (rfl) (by omega) (by omega)).mp c1
        refine wp_aload_n dX3_settle_43 rfl 0 rfl ?_
        refine wp_iconst (v := 0) dX3_settle_44 (by decide) ?_
        refine wp_putI fX3_25 fn_3_3 rfl (rfl) (by decide) dX3_settle_45 ?_
        refine wp_aload_n dX3_settle_48 rfl 0 rfl ?_
        refine wp_bipush (v := (-9)) dX3_settle_49 (by decide) ?_
        refine wp_putI fX3_29 fn_3_4 rfl (rfl) (by decide) dX3_settle_51 ?_
        refine wp_iconst (v := 0) dX3_settle_54 (by decide) ?_
        refine wp_istore_n [1, 2, 3, 0] (by decide) rfl rfl rfl dX3_settle_55 rfl ?_
        have lc : ∀ (nc : Nat) (one : Nat) (q : Int32 × Int32) (F4 : mmF), (one ≤ B.1.1 + 1) → (restsP B S = (List.range' one (B.1.1 + 1 - one)).foldl (fun q one => (List.range' 0 (B.1.1 + 1)).foldl (cntP (pw1 B S) (pw2 B S) B.1.1 one) q) q) → (F4 80 3 = q.1 ∧ F4 80 4 = q.2) → (∀ r, r ≠ 80 → F4 r = F1 r) → B.1.1 + 1 - one < nc → WP hX3_settle X 144 56 [(0, .ref 80), (1, .ref b), (2, .ref 3), (3, .int (nI one))] [] F4 A1 R G := by
          intro nc
          induction nc with
          | zero => intro one q F4 _ _ _ _ hm; exact absurd hm (Nat.not_lt_zero _)
          | succ nc ih_lc =>
            intro one q F4 h1 hv hq hr4 hm_lc
            have hB4 : isB F4 A1 b B := by unfold isB; rw [hr4 b (by omega)]; exact hB
            refine wp_iload_n dX3_settle_56 rfl 3 rfl ?_
            refine wp_aload_n dX3_settle_57 rfl 1 rfl ?_
            refine wp_getI fX3_32 rfl (hb) (bo_l0 hb) dX3_settle_58 ?_
            refine wp_top (x' := nI B.1.1) (hB4.1.1) ?_
            refine wp_icmp_gt 137 dX3_settle_61 (by decide) (fun c2 => ?_) (fun c2 => ?_)
            · replace c2 := (ix_lt (a := B.1.1) (b := one) (rfl) (rfl) (by omega) (by omega)).mp c2
              exact wp_vret hC rfl dX3_settle_137 (pV_ok (by rw [hv, show B.1.1 + 1 - one = 0 by omega]; exact ⟨hq.1, hq.2, hf.trans (show frI 80 85 F1 A1 F4 A1 from fun r hr => ⟨hr4 r (by omega), rfl⟩), rfl, rfl⟩))
            · replace c2 := mt (ix_lt (a := B.1.1) (b := one) (rfl) (rfl) (by omega) (by omega)).mpr c2
              refine wp_iconst (v := 0) dX3_settle_64 (by decide) ?_
              refine wp_istore [1, 2, 3, 4, 0] (by decide) rfl rfl rfl dX3_settle_65 ?_
              have ld : ∀ (nd : Nat) (other : Nat) (q5 : Int32 × Int32) (F5 : mmF), (other ≤ B.1.1 + 1) → (restsP B S = (List.range' (one + 1) (B.1.1 + 1 - (one + 1))).foldl (fun q one => (List.range' 0 (B.1.1 + 1)).foldl (cntP (pw1 B S) (pw2 B S) B.1.1 one) q) ((List.range' other (B.1.1 + 1 - other)).foldl (cntP (pw1 B S) (pw2 B S) B.1.1 one) q5)) → (F5 80 3 = q5.1 ∧ F5 80 4 = q5.2) → (∀ r, r ≠ 80 → F5 r = F1 r) → B.1.1 + 1 - other < nd → WP hX3_settle X 144 67 [(0, .ref 80), (1, .ref b), (2, .ref 3), (3, .int (nI one)), (4, .int (nI other))] [] F5 A1 R G := by
                intro nd
                induction nd with
                | zero => intro other q5 F5 _ _ _ _ hm; exact absurd hm (Nat.not_lt_zero _)
                | succ nd ih_ld =>
                  intro other q5 F5 ho hv5 hq5 hr5 hm_ld
                  have hB4 : isB F5 A1 b B := by unfold isB; rw [hr5 b (by omega)]; exact hB
                  refine wp_iload dX3_settle_67 4 rfl ?_
                  refine wp_aload_n dX3_settle_69 rfl 1 rfl ?_
                  refine wp_getI fX3_32 rfl (hb) (bo_l0 hb) dX3_settle_70 ?_
                  refine wp_top (x' := nI B.1.1) (hB4.1.1) ?_
                  refine wp_icmp_gt 131 dX3_settle_73 (by decide) (fun c3 => ?_) (fun c3 => ?_)
                  · replace c3 := (ix_lt (a := B.1.1) (b := other) (rfl) (rfl) (by omega) (by omega)).mp c3
                    refine wp_iinc (v := nI (one + 1)) 3 rfl (by exact nI_1 one) [1, 2, 3, 0, 5] (by decide) rfl rfl rfl dX3_settle_131 ?_
                    refine wp_goto 56 dX3_settle_134 (by decide) ?_
                    refine wp_lv [0, 1, 2, 3] rfl ?_
                    exact ih_lc (one + 1) q5 F5 (by omega) (by rw [hv5, show B.1.1 + 1 - other = 0 by omega]; rfl) hq5 hr5 (by omega)
                  · replace c3 := mt (ix_lt (a := B.1.1) (b := other) (rfl) (rfl) (by omega) (by omega)).mpr c3
                    refine wp_aload_n dX3_settle_76 rfl 0 rfl ?_
                    refine wp_aload_n dX3_settle_77 rfl 1 rfl ?_
                    refine wp_getI fX3_32 rfl (hb) (bo_l0 hb) dX3_settle_78 ?_
                    refine wp_top (x' := nI B.1.1) (hB4.1.1) ?_
                    refine wp_iload_n dX3_settle_81 rfl 3 rfl ?_
                    refine wp_iload dX3_settle_82 4 rfl ?_
                    have hrc : restP (A1 81) (A1 82) one other 0 (B.1.1 + 1) = restP (pw1 B S) (pw2 B S) one other 0 (B.1.1 + 1) := restP_cong (n := B.1.1) (by omega) (by omega) (fun i j hi hj => ((hl i j hj (by omega)).1).trans (pw_at (by omega)).1.symm) (fun i j hi hj => ((hl i j hj (by omega)).2).trans (pw_at (by omega)).2.symm) _ _ (by omega)
                    refine wp_callP (mm_siteV (av := [.int (nI B.1.1), .int (nI one), .int (nI other)]) hC lX3_41 (rfl) (by decide) ⟨_, rfl, rfl⟩ rfl rfl (Nat.le_of_ble_eq_true rfl) dX3_settle_84) (c_X3_isRest l (k + 12) _ _ _ _ B.1.1 one other hR (by omega) (by omega) (by omega)) (by omega) (by decide) ?_
                    refine wp_top (x' := restP (pw1 B S) (pw2 B S) one other 0 (B.1.1 + 1)) hrc ?_
                    refine wp_if_eq 125 dX3_settle_87 (by decide) (fun c4 => ?_) (fun c4 => ?_)
                    · refine wp_iinc (v := nI (other + 1)) 4 rfl (by exact nI_1 other) [1, 2, 3, 4, 0] (by decide) rfl rfl rfl dX3_settle_125 ?_
                      refine wp_goto 67 dX3_settle_128 (by decide) ?_
                      exact ih_ld (other + 1) q5 _ (by omega) (hv5.trans (by rw [foldl_go (f := cntP (pw1 B S) (pw2 B S) B.1.1 one) (i := other) (n := B.1.1 + 1) (by omega), show cntP (pw1 B S) (pw2 B S) B.1.1 one q5 other = q5 from by unfold cntP; simp only [*, if_true, if_false]])) hq5 hr5 (by omega)
                    · refine wp_aload_n dX3_settle_90 rfl 0 rfl ?_
                      refine wp_aload_n dX3_settle_91 rfl 0 rfl ?_
                      refine wp_getI fX3_25 rfl (rfl) (by decide) dX3_settle_92 ?_
                      refine wp_top (x' := q5.1) (hq5.1) ?_
                      refine wp_if_ne 108 dX3_settle_95 (by decide) (fun c5 => ?_) (fun c5 => ?_)
                      · refine wp_aload_n dX3_settle_108 rfl 0 rfl ?_
                        refine wp_getI fX3_29 rfl (rfl) (by decide) dX3_settle_109 ?_
                        refine wp_top (x' := q5.2) (hq5.2) ?_
                        refine wp_putI fX3_29 fn_3_4 rfl (rfl) (by decide) dX3_settle_112 ?_
                        refine wp_aload_n dX3_settle_115 rfl 0 rfl ?_
                        refine wp_dup dX3_settle_116 rfl ?_
                        refine wp_getI fX3_25 rfl (rfl) (by decide) dX3_settle_117 ?_
                        refine wp_top (x' := q5.1) (by simp [u2, va_up, hq5.1]) ?_
                        refine wp_iconst (v := 1) dX3_settle_120 (by decide) ?_
                        refine wp_iadd dX3_settle_121 ?_
                        refine wp_putI fX3_25 fn_3_3 rfl (rfl) (by decide) dX3_settle_122 ?_
                        refine wp_iinc (v := nI (other + 1)) 4 rfl (by exact nI_1 other) [1, 2, 3, 4, 0] (by decide) rfl rfl rfl dX3_settle_125 ?_
                        refine wp_goto 67 dX3_settle_128 (by decide) ?_
                        exact ih_ld (other + 1) (q5.1 + 1, q5.2) _ (by omega) (hv5.trans (by rw [foldl_go (f := cntP (pw1 B S) (pw2 B S) B.1.1 one) (i := other) (n := B.1.1 + 1) (by omega), show cntP (pw1 B S) (pw2 B S) B.1.1 one q5 other = (q5.1 + 1, q5.2) from by unfold cntP; simp only [*, if_true, if_false]])) (by simp [u2, va_up]) (fun r hr => by simp [u2, va_up, hr]; exact hr5 r hr) (by omega)
                      · refine wp_bipush (v := 10) dX3_settle_98 (by decide) ?_
                        refine wp_iload_n dX3_settle_100 rfl 3 rfl ?_
                        refine wp_imul dX3_settle_101 ?_
                        refine wp_iload dX3_settle_102 4 rfl ?_
                        refine wp_iadd dX3_settle_104 ?_
                        refine wp_goto 112 dX3_settle_105 (by decide) ?_
                        refine wp_putI fX3_29 fn_3_4 rfl (rfl) (by decide) dX3_settle_112 ?_
                        refine wp_aload_n dX3_settle_115 rfl 0 rfl ?_
                        refine wp_dup dX3_settle_116 rfl ?_
                        refine wp_getI fX3_25 rfl (rfl) (by decide) dX3_settle_117 ?_
                        refine wp_top (x' := q5.1) (by simp [u2, va_up, hq5.1]) ?_
                        refine wp_iconst (v := 1) dX3_settle_120 (by decide) ?_
                        refine wp_iadd dX3_settle_121 ?_
                        refine wp_putI fX3_25 fn_3_3 rfl (rfl) (by decide) dX3_settle_122 ?_
                        refine wp_iinc (v := nI (other + 1)) 4 rfl (by exact nI_1 other) [1, 2, 3, 4, 0] (by decide) rfl rfl rfl dX3_settle_125 ?_
                        refine wp_goto 67 dX3_settle_128 (by decide) ?_
                        exact ih_ld (other + 1) (q5.1 + 1, 10 * nI one + nI other) _ (by omega) (hv5.trans (by rw [foldl_go (f := cntP (pw1 B S) (pw2 B S) B.1.1 one) (i := other) (n := B.1.1 + 1) (by omega), show cntP (pw1 B S) (pw2 B S) B.1.1 one q5 other = (q5.1 + 1, 10 * nI one + nI other) from by unfold cntP; simp only [*, if_true, if_false]])) (by simp [u2, va_up]) (fun r hr => by simp [u2, va_up, hr]; exact hr5 r hr) (by omega)
              exact ld ((B.1.1 + 1) + 1) 0 q F4 (Nat.zero_le _) (hv.trans (foldl_go (by omega))) hq hr4 (by omega)
        exact lc ((B.1.1 + 1) + 1) 0 (0, -9) _ (Nat.zero_le _) rfl (by simp [u2, va_up]) (fun r hr => by simp [u2, va_up, hr]) (by omega)
      · replace c1 := mt (ix_lt (a := B.1.1) (b := one) (rfl) (rfl) (by omega) (by omega)).mpr c1
        refine wp_iconst (v := 0) dX3_settle_10 (by decide) ?_
        refine wp_istore [1, 2, 3, 4, 0] (by decide) rfl rfl rfl dX3_settle_11 ?_
        have lb : ∀ (nb : Nat) (other : Nat) (F2 A2 : mmF), (other ≤ B.1.1 + 1) → (laid B S A2 one other) → (frI 80 85 F A F2 A2) → B.1.1 + 1 - other < nb → WP hX3_settle X 144 13 [(0, .ref 80), (1, .ref b), (2, .ref 3), (3, .int (nI one)), (4, .int (nI other))] [] F2 A2 R G := by
          intro nb
          induction nb with
          | zero => intro other F2 A2 _ _ _ hm; exact absurd hm (Nat.not_lt_zero _)
          | succ nb ih_lb =>
            intro other F2 A2 ho hl2 hf hm_lb
            have hB := hf.b (by omega) hB0
            have hS := hf.s (c := 3) (by decide) hS0
            refine wp_iload dX3_settle_13 4 rfl ?_
            refine wp_aload_n dX3_settle_15 rfl 1 rfl ?_
            refine wp_getI fX3_32 rfl (hb) (bo_l0 hb) dX3_settle_16 ?_
            refine wp_top (x' := nI B.1.1) (hB.1.1) ?_
            refine wp_icmp_gt 37 dX3_settle_19 (by decide) (fun c6 => ?_) (fun c6 => ?_)
            · replace c6 := (ix_lt (a := B.1.1) (b := other) (rfl) (rfl) (by omega) (by omega)).mp c6
              refine wp_iinc (v := nI (one + 1)) 3 rfl (by exact nI_1 one) [1, 2, 3, 0, 5] (by decide) rfl rfl rfl dX3_settle_37 ?_
              refine wp_goto 2 dX3_settle_40 (by decide) ?_
              refine wp_lv [0, 1, 2, 3] rfl ?_
              exact ih_la (one + 1) F2 A2 (by omega) (fun i j hj h => hl2 i j hj (by omega)) hf (by omega)
            · replace c6 := mt (ix_lt (a := B.1.1) (b := other) (rfl) (rfl) (by omega) (by omega)).mpr c6
              refine wp_aload_n dX3_settle_22 rfl 0 rfl ?_
              refine wp_aload_n dX3_settle_23 rfl 1 rfl ?_
              refine wp_aload_n dX3_settle_24 rfl 2 rfl ?_
              refine wp_iload_n dX3_settle_25 rfl 3 rfl ?_
              refine wp_iload dX3_settle_26 4 rfl ?_
              refine wp_callV (mm_siteV (av := [.ref b, .ref 3, .int (nI one), .int (nI other)]) hC lX3_37 (rfl) (by decide) ⟨_, rfl, rfl⟩ rfl rfl (Nat.le_of_ble_eq_true rfl) dX3_settle_28) (c_X3_weigh l k _ _ _ _ b one other S B hR hb hS hB hw h2 (by omega) (by omega)) (by omega) (by decide) (by decide) ?_
              rintro F3 A3 _ _ ⟨e1, e2, e3, e4, rfl, rfl⟩
              have hf := hf.trans (show frI 80 85 F2 A2 F3 A3 from fun r hr => ⟨e3 r (by omega), e4 r (by omega) (by omega) (by omega) (by omega)⟩)
              refine wp_iinc (v := nI (other + 1)) 4 rfl (by exact nI_1 other) [1, 2, 3, 4, 0] (by decide) rfl rfl rfl dX3_settle_31 ?_
              refine wp_goto 13 dX3_settle_34 (by decide) ?_
              exact ih_lb (other + 1) F3 A3 (by omega) (laid_step hw1.1 (by omega) hl2 e1 e2) hf (by omega)
        exact lb ((B.1.1 + 1) + 1) 0 F1 A1 (Nat.zero_le _) hl hf (by omega)
  exact la ((B.1.1 + 1) + 1) 0 F A (Nat.zero_le _) (fun i j _ h => by omega) (frI.refl _ _ F A) (by omega)

