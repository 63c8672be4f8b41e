set_option maxRecDepth 100000 in
set_option maxHeartbeats 600000 in
theorem c_X10_in (l : Launch) (k : Nat) (F A : mmF) (R : mmR) (G : mmG) (x a b : Int32) : Meets l hX10_in k 144 144 [.long x.toInt64, .long a.toInt64, .long b.toInt64] F A R G (pP (inP x a b) F A R G) := by
  refine mm_start rfl (Nat.le_of_ble_eq_true rfl) (fun X hC => ?_)
  show WP hX10_in X 144 0 [(0, .long x.toInt64), (2, .long a.toInt64), (4, .long b.toInt64)] [] F A R G
  refine wp_lload_n dX10_in_0 rfl 0 rfl ?_
  refine wp_lload_n dX10_in_1 rfl 1 rfl ?_
  refine wp_lcmp dX10_in_2 ?_
  refine wp_if_lt 17 dX10_in_3 (by decide) (fun c1 => ?_) (fun c1 => ?_)
  · refine wp_iconst (v := 0) dX10_in_17 (by decide) ?_
    exact wp_iret hC rfl rfl dX10_in_18 (pP_ok (by unfold inP; rw [lg_cmp_lt, wide_lt] at c1; (try rw [lg_cmp_gt, wide_lt] at c2); simp only [c1, if_true, if_false]))
  · refine wp_lload_n dX10_in_6 rfl 0 rfl ?_
    refine wp_lload dX10_in_7 2 rfl ?_
    refine wp_lcmp dX10_in_9 ?_
    refine wp_if_gt 17 dX10_in_10 (by decide) (fun c2 => ?_) (fun c2 => ?_)
    · refine wp_iconst (v := 0) dX10_in_17 (by decide) ?_
      exact wp_iret hC rfl rfl dX10_in_18 (pP_ok (by unfold inP; rw [lg_cmp_lt, wide_lt] at c1; (try rw [lg_cmp_gt, wide_lt] at c2); simp only [c1, c2, if_true, if_false]))
    · refine wp_iconst (v := 1) dX10_in_13 (by decide) ?_
      refine wp_goto 18 dX10_in_14 (by decide) ?_
      exact wp_iret hC rfl rfl dX10_in_18 (pP_ok (by unfold inP; rw [lg_cmp_lt, wide_lt] at c1; (try rw [lg_cmp_gt, wide_lt] at c2); simp only [c1, c2, if_true, if_false]))

set_option maxRecDepth 100000 in
set_option maxHeartbeats 600000 in
theorem c_X10_has (l : Launch) (k : Nat) (F A : mmF) (R : mmR) (G : mmG) (x y : Int32) : Meets l hX10_has k 144 144 [.int x, .int y] F A R G (pP (bt x y) F A R G) := by
  refine mm_start rfl (Nat.le_of_ble_eq_true rfl) (fun X hC => ?_)
  show WP hX10_has X 144 0 [(0, .int x), (1, .int y)] [] F A R G
  refine wp_iload_n dX10_has_0 rfl 0 rfl ?_
  refine wp_iload_n dX10_has_1 rfl 1 rfl ?_
  refine wp_ishr dX10_has_2 ?_
  refine wp_iconst (v := 1) dX10_has_3 (by decide) ?_
  refine wp_iand dX10_has_4 ?_
  refine wp_iconst (v := 1) dX10_has_5 (by decide) ?_
  refine wp_icmp_ne 13 dX10_has_6 (by decide) (fun c1 => ?_) (fun c1 => ?_)
  · refine wp_iconst (v := 0) dX10_has_13 (by decide) ?_
    exact wp_iret hC rfl rfl dX10_has_14 (pP_ok (((bt_one (x := x) (y := y)).resolve_right c1).symm))
  · refine wp_iconst (v := 1) dX10_has_9 (by decide) ?_
    refine wp_goto 14 dX10_has_10 (by decide) ?_
    exact wp_iret hC rfl rfl dX10_has_14 (pP_ok (Eq.symm c1))

set_option maxRecDepth 100000 in
set_option maxHeartbeats 600000 in
theorem c_X10_many (l : Launch) (k : Nat) (F A : mmF) (R : mmR) (G : mmG) (n : Nat) (hn : n < 32) : Meets l hX10_many k 144 144 [.int (nI n)] F A R G (pP (nI (bc n)) F A R G) := by
  refine mm_start rfl (Nat.le_of_ble_eq_true rfl) (fun X hC => ?_)
  show WP hX10_many X 144 0 [(0, .int (nI n))] [] F A R G
  refine wp_iconst (v := 0) dX10_many_0 (by decide) ?_
  refine wp_istore_n [1, 0] (by decide) rfl rfl rfl dX10_many_1 rfl ?_
  refine wp_iconst (v := 0) dX10_many_2 (by decide) ?_
  refine wp_istore_n [1, 2, 0] (by decide) rfl rfl rfl dX10_many_3 rfl ?_
  have lp : ∀ (nn : Nat) (i : Nat), (i ≤ 5) → 5 - i < nn → WP hX10_many X 144 4 [(0, .int (nI n)), (1, .int (nI (bcs n i))), (2, .int (nI i))] [] F A R G := by
    intro nn
    induction nn with
    | zero => intro i _ hm; exact absurd hm (Nat.not_lt_zero _)
    | succ nn ih_lp =>
      intro i hi hm_lp
      refine wp_iload_n dX10_many_4 rfl 2 rfl ?_
      refine wp_iconst (v := 5) dX10_many_5 (by decide) ?_
      refine wp_icmp_ge 23 dX10_many_6 (by decide) (fun c1 => ?_) (fun c1 => ?_)
      · replace c1 := (ix_le (a := 5) (b := i) (rfl) (rfl) (by omega) (by omega)).mp c1
        refine wp_iload_n dX10_many_23 rfl 1 rfl ?_
        exact wp_iret hC rfl rfl dX10_many_24 (pP_ok (by rw [show i = 5 by omega, bcs_5]))
      · replace c1 := mt (ix_le (a := 5) (b := i) (rfl) (rfl) (by omega) (by omega)).mpr c1
        refine wp_iload_n dX10_many_9 rfl 1 rfl ?_
        refine wp_iload_n dX10_many_10 rfl 0 rfl ?_
        refine wp_iload_n dX10_many_11 rfl 2 rfl ?_
        refine wp_ishr dX10_many_12 ?_
        refine wp_iconst (v := 1) dX10_many_13 (by decide) ?_
        refine wp_iand dX10_many_14 ?_
        refine wp_iadd dX10_many_15 ?_
        refine wp_top (x' := nI (bcs n (i + 1))) (ix_add rfl (bt_nI n hn i (by omega))) ?_
        refine wp_istore_n [1, 0, 3] (by decide) rfl rfl rfl dX10_many_16 rfl ?_
        refine wp_iinc (v := nI (i + 1)) 2 rfl (by exact nI_1 i) [1, 2, 0] (by decide) rfl rfl rfl dX10_many_17 ?_
        refine wp_goto 4 dX10_many_20 (by decide) ?_
        exact ih_lp (i + 1) (by omega) (by omega)
  exact lp (5 + 1) 0 (by decide) (by omega)

set_option maxRecDepth 100000 in
set_option maxHeartbeats 600000 in
theorem c_X10_noHusk (l : Launch) (k : Nat) (F A : mmF) (R : mmR) (G : mmG) (x : Int32) (B : BV) (hM : isM F A 4 125 B) (hw : wfB B) : Meets l hX10_noHusk (k + 1) 144 144 [.ref 123, .int x] F A R G (pP (if isIn x (nI B.1.1) = 0 then 1 else 0) F A R G) := by
  refine mm_start rfl (Nat.le_of_ble_eq_true rfl) (fun X hC => ?_)
  show WP hX10_noHusk X 144 0 [(0, .ref 123), (1, .int x)] [] F A R G
  have hw1 := hw.1
  refine wp_iload_n dX10_noHusk_0 rfl 1 rfl ?_
  refine wp_i2l dX10_noHusk_1 ?_
  refine wp_lconst (v := 0) dX10_noHusk_2 rfl ?_
  refine wp_topL (x' := (0 : Int32).toInt64) (by decide) ?_
  refine wp_aload_n dX10_noHusk_3 rfl 0 rfl ?_
  refine wp_getI fX10_75 rfl (rfl) (by decide) dX10_noHusk_4 ?_
  refine wp_top (x' := nI B.1.1) (hM.1) ?_
  refine wp_iconst (v := 1) dX10_noHusk_7 (by decide) ?_
  refine wp_isub dX10_noHusk_8 ?_
  refine wp_i2l dX10_noHusk_9 ?_
  refine wp_callP (e := inP x 0 ((nI B.1.1) - 1)) (mm_siteS (av := [.long x.toInt64, .long ((0 : Int32).toInt64), .long (((nI B.1.1) - 1).toInt64)]) hC lX10_78 rfl rfl (Nat.le_of_ble_eq_true rfl) dX10_noHusk_10) (c_X10_in l k _ _ _ _ x 0 ((nI B.1.1) - 1)) (by omega) (by decide) ?_
  refine wp_if_ne 20 dX10_noHusk_13 (by decide) (fun c1 => ?_) (fun c1 => ?_)
  · refine wp_iconst (v := 0) dX10_noHusk_20 (by decide) ?_
    exact wp_iret hC rfl rfl dX10_noHusk_21 (pP_ok (by rw [in_isIn (by omega)] at c1; simp only [c1, if_true, if_false]))
  · refine wp_iconst (v := 1) dX10_noHusk_16 (by decide) ?_
    refine wp_goto 21 dX10_noHusk_17 (by decide) ?_
    exact wp_iret hC rfl rfl dX10_noHusk_21 (pP_ok (by rw [in_isIn (by omega)] at c1; simp only [c1, if_true, if_false]))

set_option maxRecDepth 100000 in
set_option maxHeartbeats 600000 in
theorem c_X10_noThrower (l : Launch) (k : Nat) (F A : mmF) (R : mmR) (G : mmG) (x : Int32) (B : BV) (hM : isM F A 4 125 B) (hw : wfB B) : Meets l hX10_noThrower (k + 1) 144 144 [.ref 123, .int x] F A R G (pP (if isIn x (nI B.1.2.1) = 0 then 1 else 0) F A R G) := by
  refine mm_start rfl (Nat.le_of_ble_eq_true rfl) (fun X hC => ?_)
  show WP hX10_noThrower X 144 0 [(0, .ref 123), (1, .int x)] [] F A R G
  have hw1 := hw.1
  refine wp_iload_n dX10_noThrower_0 rfl 1 rfl ?_
  refine wp_i2l dX10_noThrower_1 ?_
  refine wp_lconst (v := 0) dX10_noThrower_2 rfl ?_
  refine wp_topL (x' := (0 : Int32).toInt64) (by decide) ?_
  refine wp_aload_n dX10_noThrower_3 rfl 0 rfl ?_
  refine wp_getI fX10_82 rfl (rfl) (by decide) dX10_noThrower_4 ?_
  refine wp_top (x' := nI B.1.2.1) (hM.2.1) ?_
  refine wp_iconst (v := 1) dX10_noThrower_7 (by decide) ?_
  refine wp_isub dX10_noThrower_8 ?_
  refine wp_i2l dX10_noThrower_9 ?_
  refine wp_callP (e := inP x 0 ((nI B.1.2.1) - 1)) (mm_siteS (av := [.long x.toInt64, .long ((0 : Int32).toInt64), .long (((nI B.1.2.1) - 1).toInt64)]) hC lX10_78 rfl rfl (Nat.le_of_ble_eq_true rfl) dX10_noThrower_10) (c_X10_in l k _ _ _ _ x 0 ((nI B.1.2.1) - 1)) (by omega) (by decide) ?_
  refine wp_if_ne 20 dX10_noThrower_13 (by decide) (fun c1 => ?_) (fun c1 => ?_)
  · refine wp_iconst (v := 0) dX10_noThrower_20 (by decide) ?_
    exact wp_iret hC rfl rfl dX10_noThrower_21 (pP_ok (by rw [in_isIn (by omega)] at c1; simp only [c1, if_true, if_false]))
  · refine wp_iconst (v := 1) dX10_noThrower_16 (by decide) ?_
    refine wp_goto 21 dX10_noThrower_17 (by decide) ?_
    exact wp_iret hC rfl rfl dX10_noThrower_21 (pP_ok (by rw [in_isIn (by omega)] at c1; simp only [c1, if_true, if_false]))

/-- the model's refusal of a throw; 0: none -/
def noTm (B : BV) (t pl lk : Int32) : Int32 := if isIn t (nI B.1.2.1) = 0 then -1 else if isIn pl 8 = 0 then -2 else if isIn lk 3 = 0 then -2 else 0
set_option maxRecDepth 100000 in
set_option maxHeartbeats 600000 in
theorem c_X10_noThrow (l : Launch) (k : Nat) (F A : mmF) (R : mmR) (G : mmG) (t pl lk : Int32) (B : BV) (hM : isM F A 4 125 B) (hw : wfB B) : Meets l hX10_noThrow (k + 2) 144 144 [.ref 123, .int t, .int pl, .int lk] F A R G (pP (noTm B t pl lk) F A R G) := by
  refine mm_start rfl (Nat.le_of_ble_eq_true rfl) (fun X hC => ?_)
  show WP hX10_noThrow X 144 0 [(0, .ref 123), (1, .int t), (2, .int pl), (3, .int lk)] [] F A R G
  refine wp_aload_n dX10_noThrow_0 rfl 0 rfl ?_
  refine wp_iload_n dX10_noThrow_1 rfl 1 rfl ?_
  refine wp_callP (e := if isIn t (nI B.1.2.1) = 0 then 1 else 0) (mm_siteV (av := [.int t]) hC lX10_183 (rfl) (by decide) ⟨_, rfl, rfl⟩ rfl rfl (Nat.le_of_ble_eq_true rfl) dX10_noThrow_2) (c_X10_noThrower l k _ _ _ _ _ B hM hw) (by omega) (by decide) ?_
  refine wp_if_eq 10 dX10_noThrow_5 (by decide) (fun c1 => ?_) (fun c1 => ?_)
  · rw [ite01] at c1
    refine wp_iload_n dX10_noThrow_10 rfl 2 rfl ?_
    refine wp_i2l dX10_noThrow_11 ?_
    refine wp_lconst (v := 0) dX10_noThrow_12 rfl ?_
    refine wp_topL (x' := (0 : Int32).toInt64) (by decide) ?_
    refine wp_ldc2 (v := 7) k_889 dX10_noThrow_13 ?_
    refine wp_topL (x' := (7 : Int32).toInt64) (by decide) ?_
    refine wp_callP (e := inP pl 0 7) (mm_siteS (av := [.long pl.toInt64, .long ((0 : Int32).toInt64), .long ((7 : Int32).toInt64)]) hC lX10_78 rfl rfl (Nat.le_of_ble_eq_true rfl) dX10_noThrow_16) (c_X10_in l (k + 1) _ _ _ _ pl 0 7) (by omega) (by decide) ?_
    refine wp_if_eq 38 dX10_noThrow_19 (by decide) (fun c2 => ?_) (fun c2 => ?_)
    · rw [in8] at c2
      refine wp_bipush (v := (-2)) dX10_noThrow_38 (by decide) ?_
      exact wp_iret hC rfl rfl dX10_noThrow_40 (pP_ok (by unfold noTm; simp only [c1, c2, if_true, if_false]))
    · rw [in8] at c2
      refine wp_iload_n dX10_noThrow_22 rfl 3 rfl ?_
      refine wp_i2l dX10_noThrow_23 ?_
      refine wp_lconst (v := 0) dX10_noThrow_24 rfl ?_
      refine wp_topL (x' := (0 : Int32).toInt64) (by decide) ?_
      refine wp_ldc2 (v := 2) k_932 dX10_noThrow_25 ?_
      refine wp_topL (x' := (2 : Int32).toInt64) (by decide) ?_
      refine wp_callP (e := inP lk 0 2) (mm_siteS (av := [.long lk.toInt64, .long ((0 : Int32).toInt64), .long ((2 : Int32).toInt64)]) hC lX10_78 rfl rfl (Nat.le_of_ble_eq_true rfl) dX10_noThrow_28) (c_X10_in l (k + 1) _ _ _ _ lk 0 2) (by omega) (by decide) ?_
      refine wp_if_eq 38 dX10_noThrow_31 (by decide) (fun c3 => ?_) (fun c3 => ?_)
      · rw [in3] at c3
        refine wp_bipush (v := (-2)) dX10_noThrow_38 (by decide) ?_
        exact wp_iret hC rfl rfl dX10_noThrow_40 (pP_ok (by unfold noTm; simp only [c1, c2, c3, if_true, if_false]))
      · rw [in3] at c3
        refine wp_iconst (v := 0) dX10_noThrow_34 (by decide) ?_
        refine wp_goto 40 dX10_noThrow_35 (by decide) ?_
        exact wp_iret hC rfl rfl dX10_noThrow_40 (pP_ok (by unfold noTm; simp only [c1, c2, c3, if_true, if_false]))
  · rw [ite01, Classical.not_not] at c1
    refine wp_iconst (v := (-1)) dX10_noThrow_8 (by decide) ?_
    exact wp_iret hC rfl rfl dX10_noThrow_9 (pP_ok (by unfold noTm; simp only [c1, if_true, if_false]))

set_option maxRecDepth 100000 in
set_option maxHeartbeats 600000 in
theorem c_X10_firm (l : Launch) (k : Nat) (F A : mmF) (R : mmR) (G : mmG) (p h : Nat) (S : SV) (B : BV) (hR : mm_RL R) (hp : pg p) (hM : isM F A 4 125 B) (hw : wfB B) (hP : isP A p S) (hh : h < B.1.1) (hk : bt (S.2.2 3) (nI h) = 0 ∨ B.2 3 h = 3) : Meets l hX10_firm (k + 1) 144 144 [.ref 123, .ref p, .int (nI h)] F A R G (pP (firmB B S h) F A R G) := by
  refine mm_start rfl (Nat.le_of_ble_eq_true rfl) (fun X hC => ?_)
  show WP hX10_firm X 144 0 [(0, .ref 123), (1, .ref p), (2, .int (nI h))] [] F A R G
  have hw1 := hw.1
  obtain ⟨-, ⟨q, hq1, hq2, hq⟩, -⟩ := hw.2.1 h hh
  refine wp_aload_n dX10_firm_0 rfl 0 rfl ?_
  refine wp_getO (q := 125) fX10_13 hR rfl (rfl) (by decide) (by decide) rfl dX10_firm_1 ?_
  refine wp_iconst (v := 3) dX10_firm_4 (by decide) ?_
  refine wp_iload_n dX10_firm_5 rfl 2 rfl ?_
  refine wp_imul dX10_firm_6 ?_
  refine wp_iconst (v := 1) dX10_firm_7 (by decide) ?_
  refine wp_iadd dX10_firm_8 ?_
  refine wp_iald ((3 * h) + 1) (ix_add (ix_mul rfl rfl) rfl) (rfl) (by decide) ((show (3 * h) + 1 < 15 from by omega)) dX10_firm_9 ?_
  refine wp_top (x' := B.2 2 h) (hM.2.2.2.1 h (by omega) 1 (by decide)) ?_
  refine wp_aload_n dX10_firm_10 rfl 1 rfl ?_
  refine wp_bipush (v := 11) dX10_firm_11 (by decide) ?_
  refine wp_iald 11 (rfl) (pg_k hp) (pg_l hp) (pg_i hp (by omega)) dX10_firm_13 ?_
  refine wp_top (x' := S.2.2 4) (hP 11 (by decide)) ?_
  refine wp_iload_n dX10_firm_14 rfl 2 rfl ?_
  refine wp_callP (e := bt (S.2.2 4) (nI h)) (mm_siteS (av := [.int (S.2.2 4), .int (nI h)]) hC lX10_144 rfl rfl (Nat.le_of_ble_eq_true rfl) dX10_firm_15) (c_X10_has l k _ _ _ _ (S.2.2 4) (nI h)) (by omega) (by decide) ?_
  refine wp_if_eq 25 dX10_firm_18 (by decide) (fun c1 => ?_) (fun c1 => ?_)
  · refine wp_iconst (v := 0) dX10_firm_25 (by decide) ?_
    refine wp_iadd dX10_firm_26 ?_
    refine wp_istore_n [1, 2, 3, 0] (by decide) rfl rfl rfl dX10_firm_27 rfl ?_
    refine wp_aload_n dX10_firm_28 rfl 1 rfl ?_
    refine wp_bipush (v := 10) dX10_firm_29 (by decide) ?_
    refine wp_iald 10 (rfl) (pg_k hp) (pg_l hp) (pg_i hp (by omega)) dX10_firm_31 ?_
    refine wp_top (x' := S.2.2 3) (hP 10 (by decide)) ?_
    refine wp_iload_n dX10_firm_32 rfl 2 rfl ?_
    refine wp_callP (e := bt (S.2.2 3) (nI h)) (mm_siteS (av := [.int (S.2.2 3), .int (nI h)]) hC lX10_144 rfl rfl (Nat.le_of_ble_eq_true rfl) dX10_firm_33) (c_X10_has l k _ _ _ _ (S.2.2 3) (nI h)) (by omega) (by decide) ?_
    refine wp_if_eq 52 dX10_firm_36 (by decide) (fun c2 => ?_) (fun c2 => ?_)
    · refine wp_aload_n dX10_firm_52 rfl 0 rfl ?_
      refine wp_getO (q := 125) fX10_13 hR rfl (rfl) (by decide) (by decide) rfl dX10_firm_53 ?_
      refine wp_iconst (v := 3) dX10_firm_56 (by decide) ?_
      refine wp_iload_n dX10_firm_57 rfl 2 rfl ?_
      refine wp_imul dX10_firm_58 ?_
      refine wp_iconst (v := 2) dX10_firm_59 (by decide) ?_
      refine wp_iadd dX10_firm_60 ?_
      refine wp_iald ((3 * h) + 2) (ix_add (ix_mul rfl rfl) rfl) (rfl) (by decide) ((show (3 * h) + 2 < 15 from by omega)) dX10_firm_61 ?_
      refine wp_top (x' := B.2 3 h) (hM.2.2.2.1 h (by omega) 2 (by decide)) ?_
      refine wp_iconst (v := 2) dX10_firm_62 (by decide) ?_
      refine wp_icmp_ne 89 dX10_firm_63 (by decide) (fun c3 => ?_) (fun c3 => ?_)
      · refine wp_iload_n dX10_firm_89 rfl 3 rfl ?_
        exact wp_iret hC rfl rfl dX10_firm_90 (pP_ok (by unfold firmB; rw [← firm_eq ⟨hq1, hq2⟩ hq hk]; unfold firmM; simp only [c1, c2, c3, if_true, if_false]))
      · refine wp_iload_n dX10_firm_66 rfl 3 rfl ?_
        refine wp_aload_n dX10_firm_67 rfl 1 rfl ?_
        refine wp_iconst (v := 5) dX10_firm_68 (by decide) ?_
        refine wp_iload_n dX10_firm_69 rfl 2 rfl ?_
        refine wp_iadd dX10_firm_70 ?_
        refine wp_iald (5 + h) (ix_add rfl rfl) (pg_k hp) (pg_l hp) (pg_i hp (by omega)) dX10_firm_71 ?_
        refine wp_top (x' := S.2.1 h) (isP_h hP (by omega)) ?_
        refine wp_isub dX10_firm_72 ?_
        refine wp_iconst (v := 1) dX10_firm_73 (by decide) ?_
        refine wp_icmp_ge 81 dX10_firm_74 (by decide) (fun c4 => ?_) (fun c4 => ?_)
        · refine wp_iload_n dX10_firm_81 rfl 3 rfl ?_
          refine wp_aload_n dX10_firm_82 rfl 1 rfl ?_
          refine wp_iconst (v := 5) dX10_firm_83 (by decide) ?_
          refine wp_iload_n dX10_firm_84 rfl 2 rfl ?_
          refine wp_iadd dX10_firm_85 ?_
          refine wp_iald (5 + h) (ix_add rfl rfl) (pg_k hp) (pg_l hp) (pg_i hp (by omega)) dX10_firm_86 ?_
          refine wp_top (x' := S.2.1 h) (isP_h hP (by omega)) ?_
          refine wp_isub dX10_firm_87 ?_
          refine wp_istore_n [1, 2, 3, 0] (by decide) rfl rfl rfl dX10_firm_88 rfl ?_
          refine wp_iload_n dX10_firm_89 rfl 3 rfl ?_
          exact wp_iret hC rfl rfl dX10_firm_90 (pP_ok (by unfold firmB; rw [← firm_eq ⟨hq1, hq2⟩ hq hk]; unfold firmM; simp only [c1, c2, c3, c4, if_true, if_false]))
        · refine wp_iconst (v := 1) dX10_firm_77 (by decide) ?_
          refine wp_goto 88 dX10_firm_78 (by decide) ?_
          refine wp_istore_n [1, 2, 3, 0] (by decide) rfl rfl rfl dX10_firm_88 rfl ?_
          refine wp_iload_n dX10_firm_89 rfl 3 rfl ?_
          exact wp_iret hC rfl rfl dX10_firm_90 (pP_ok (by unfold firmB; rw [← firm_eq ⟨hq1, hq2⟩ hq hk]; unfold firmM; simp only [c1, c2, c3, c4, if_true, if_false]))
    · refine wp_iload_n dX10_firm_39 rfl 3 rfl ?_
      refine wp_iconst (v := 2) dX10_firm_40 (by decide) ?_
      refine wp_icmp_ge 48 dX10_firm_41 (by decide) (fun c5 => ?_) (fun c5 => ?_)
      · refine wp_iload_n dX10_firm_48 rfl 3 rfl ?_
        refine wp_iconst (v := 2) dX10_firm_49 (by decide) ?_
        refine wp_idiv dX10_firm_50 (by decide) ?_
        refine wp_istore_n [1, 2, 3, 0] (by decide) rfl rfl rfl dX10_firm_51 rfl ?_
        refine wp_aload_n dX10_firm_52 rfl 0 rfl ?_
        refine wp_getO (q := 125) fX10_13 hR rfl (rfl) (by decide) (by decide) rfl dX10_firm_53 ?_
        refine wp_iconst (v := 3) dX10_firm_56 (by decide) ?_
        refine wp_iload_n dX10_firm_57 rfl 2 rfl ?_
        refine wp_imul dX10_firm_58 ?_
        refine wp_iconst (v := 2) dX10_firm_59 (by decide) ?_
        refine wp_iadd dX10_firm_60 ?_
        refine wp_iald ((3 * h) + 2) (ix_add (ix_mul rfl rfl) rfl) (rfl) (by decide) ((show (3 * h) + 2 < 15 from by omega)) dX10_firm_61 ?_
        refine wp_top (x' := B.2 3 h) (hM.2.2.2.1 h (by omega) 2 (by decide)) ?_
        refine wp_iconst (v := 2) dX10_firm_62 (by decide) ?_
        refine wp_icmp_ne 89 dX10_firm_63 (by decide) (fun c6 => ?_) (fun c6 => ?_)
        · refine wp_iload_n dX10_firm_89 rfl 3 rfl ?_
          exact wp_iret hC rfl rfl dX10_firm_90 (pP_ok (by unfold firmB; rw [← firm_eq ⟨hq1, hq2⟩ hq hk]; unfold firmM; simp only [c1, c2, c5, c6, if_true, if_false]))
        · refine wp_iload_n dX10_firm_66 rfl 3 rfl ?_
          refine wp_aload_n dX10_firm_67 rfl 1 rfl ?_
          refine wp_iconst (v := 5) dX10_firm_68 (by decide) ?_
          refine wp_iload_n dX10_firm_69 rfl 2 rfl ?_
          refine wp_iadd dX10_firm_70 ?_
          refine wp_iald (5 + h) (ix_add rfl rfl) (pg_k hp) (pg_l hp) (pg_i hp (by omega)) dX10_firm_71 ?_
          refine wp_top (x' := S.2.1 h) (isP_h hP (by omega)) ?_
          refine wp_isub dX10_firm_72 ?_
          refine wp_iconst (v := 1) dX10_firm_73 (by decide) ?_
          refine wp_icmp_ge 81 dX10_firm_74 (by decide) (fun c7 => ?_) (fun c7 => ?_)
          · refine wp_iload_n dX10_firm_81 rfl 3 rfl ?_
            refine wp_aload_n dX10_firm_82 rfl 1 rfl ?_
            refine wp_iconst (v := 5) dX10_firm_83 (by decide) ?_
            refine wp_iload_n dX10_firm_84 rfl 2 rfl ?_
            refine wp_iadd dX10_firm_85 ?_
            refine wp_iald (5 + h) (ix_add rfl rfl) (pg_k hp) (pg_l hp) (pg_i hp (by omega)) dX10_firm_86 ?_
            refine wp_top (x' := S.2.1 h) (isP_h hP (by omega)) ?_
            refine wp_isub dX10_firm_87 ?_
            refine wp_istore_n [1, 2, 3, 0] (by decide) rfl rfl rfl dX10_firm_88 rfl ?_
            refine wp_iload_n dX10_firm_89 rfl 3 rfl ?_
            exact wp_iret hC rfl rfl dX10_firm_90 (pP_ok (by unfold firmB; rw [← firm_eq ⟨hq1, hq2⟩ hq hk]; unfold firmM; simp only [c1, c2, c5, c6, c7, if_true, if_false]))
          · refine wp_iconst (v := 1) dX10_firm_77 (by decide) ?_
            refine wp_goto 88 dX10_firm_78 (by decide) ?_
            refine wp_istore_n [1, 2, 3, 0] (by decide) rfl rfl rfl dX10_firm_88 rfl ?_
            refine wp_iload_n dX10_firm_89 rfl 3 rfl ?_
            exact wp_iret hC rfl rfl dX10_firm_90 (pP_ok (by unfold firmB; rw [← firm_eq ⟨hq1, hq2⟩ hq hk]; unfold firmM; simp only [c1, c2, c5, c6, c7, if_true, if_false]))
      · refine wp_iconst (v := 1) dX10_firm_44 (by decide) ?_
        refine wp_goto 51 dX10_firm_45 (by decide) ?_
        refine wp_istore_n [1, 2, 3, 0] (by decide) rfl rfl rfl dX10_firm_51 rfl ?_
        refine wp_aload_n dX10_firm_52 rfl 0 rfl ?_
        refine wp_getO (q := 125) fX10_13 hR rfl (rfl) (by decide) (by decide) rfl dX10_firm_53 ?_
        refine wp_iconst (v := 3) dX10_firm_56 (by decide) ?_
        refine wp_iload_n dX10_firm_57 rfl 2 rfl ?_
        refine wp_imul dX10_firm_58 ?_
        refine wp_iconst (v := 2) dX10_firm_59 (by decide) ?_
        refine wp_iadd dX10_firm_60 ?_
        refine wp_iald ((3 * h) + 2) (ix_add (ix_mul rfl rfl) rfl) (rfl) (by decide) ((show (3 * h) + 2 < 15 from by omega)) dX10_firm_61 ?_
        refine wp_top (x' := B.2 3 h) (hM.2.2.2.1 h (by omega) 2 (by decide)) ?_
        refine wp_iconst (v := 2) dX10_firm_62 (by decide) ?_
        refine wp_icmp_ne 89 dX10_firm_63 (by decide) (fun c8 => ?_) (fun c8 => ?_)
        · refine wp_iload_n dX10_firm_89 rfl 3 rfl ?_
          exact wp_iret hC rfl rfl dX10_firm_90 (pP_ok (by unfold firmB; rw [← firm_eq ⟨hq1, hq2⟩ hq hk]; unfold firmM; simp only [c1, c2, c5, c8, if_true, if_false]))
        · refine wp_iload_n dX10_firm_66 rfl 3 rfl ?_
          refine wp_aload_n dX10_firm_67 rfl 1 rfl ?_
          refine wp_iconst (v := 5) dX10_firm_68 (by decide) ?_
          refine wp_iload_n dX10_firm_69 rfl 2 rfl ?_
          refine wp_iadd dX10_firm_70 ?_
          refine wp_iald (5 + h) (ix_add rfl rfl) (pg_k hp) (pg_l hp) (pg_i hp (by omega)) dX10_firm_71 ?_
          refine wp_top (x' := S.2.1 h) (isP_h hP (by omega)) ?_
          refine wp_isub dX10_firm_72 ?_
          refine wp_iconst (v := 1) dX10_firm_73 (by decide) ?_
          refine wp_icmp_ge 81 dX10_firm_74 (by decide) (fun c9 => ?_) (fun c9 => ?_)
          · refine wp_iload_n dX10_firm_81 rfl 3 rfl ?_
            refine wp_aload_n dX10_firm_82 rfl 1 rfl ?_
            refine wp_iconst (v := 5) dX10_firm_83 (by decide) ?_
            refine wp_iload_n dX10_firm_84 rfl 2 rfl ?_
            refine wp_iadd dX10_firm_85 ?_
            refine wp_iald (5 + h) (ix_add rfl rfl) (pg_k hp) (pg_l hp) (pg_i hp (by omega)) dX10_firm_86 ?_
            refine wp_top (x' := S.2.1 h) (isP_h hP (by omega)) ?_
            refine wp_isub dX10_firm_87 ?_
            refine wp_istore_n [1, 2, 3, 0] (by decide) rfl rfl rfl dX10_firm_88 rfl ?_
            refine wp_iload_n dX10_firm_89 rfl 3 rfl ?_
            exact wp_iret hC rfl rfl dX10_firm_90 (pP_ok (by unfold firmB; rw [← firm_eq ⟨hq1, hq2⟩ hq hk]; unfold firmM; simp only [c1, c2, c5, c8, c9, if_true, if_false]))
          · refine wp_iconst (v := 1) dX10_firm_77 (by decide) ?_
            refine wp_goto 88 dX10_firm_78 (by decide) ?_
            refine wp_istore_n [1, 2, 3, 0] (by decide) rfl rfl rfl dX10_firm_88 rfl ?_
            refine wp_iload_n dX10_firm_89 rfl 3 rfl ?_
            exact wp_iret hC rfl rfl dX10_firm_90 (pP_ok (by unfold firmB; rw [← firm_eq ⟨hq1, hq2⟩ hq hk]; unfold firmM; simp only [c1, c2, c5, c8, c9, if_true, if_false]))
  · refine wp_iconst (v := 4) dX10_firm_21 (by decide) ?_
    refine wp_goto 26 dX10_firm_22 (by decide) ?_
    refine wp_iadd dX10_firm_26 ?_
    refine wp_istore_n [1, 2, 3, 0] (by decide) rfl rfl rfl dX10_firm_27 rfl ?_
    refine wp_aload_n dX10_firm_28 rfl 1 rfl ?_
    refine wp_bipush (v := 10) dX10_firm_29 (by decide) ?_
    refine wp_iald 10 (rfl) (pg_k hp) (pg_l hp) (pg_i hp (by omega)) dX10_firm_31 ?_
    refine wp_top (x' := S.2.2 3) (hP 10 (by decide)) ?_
    refine wp_iload_n dX10_firm_32 rfl 2 rfl ?_
    refine wp_callP (e := bt (S.2.2 3) (nI h)) (mm_siteS (av := [.int (S.2.2 3), .int (nI h)]) hC lX10_144 rfl rfl (Nat.le_of_ble_eq_true rfl) dX10_firm_33) (c_X10_has l k _ _ _ _ (S.2.2 3) (nI h)) (by omega) (by decide) ?_
    refine wp_if_eq 52 dX10_firm_36 (by decide) (fun c10 => ?_) (fun c10 => ?_)
    · refine wp_aload_n dX10_firm_52 rfl 0 rfl ?_
      refine wp_getO (q := 125) fX10_13 hR rfl (rfl) (by decide) (by decide) rfl dX10_firm_53 ?_
      refine wp_iconst (v := 3) dX10_firm_56 (by decide) ?_
      refine wp_iload_n dX10_firm_57 rfl 2 rfl ?_
      refine wp_imul dX10_firm_58 ?_
      refine wp_iconst (v := 2) dX10_firm_59 (by decide) ?_
      refine wp_iadd dX10_firm_60 ?_
      refine wp_iald ((3 * h) + 2) (ix_add (ix_mul rfl rfl) rfl) (rfl) (by decide) ((show (3 * h) + 2 < 15 from by omega)) dX10_firm_61 ?_
      refine wp_top (x' := B.2 3 h) (hM.2.2.2.1 h (by omega) 2 (by decide)) ?_
      refine wp_iconst (v := 2) dX10_firm_62 (by decide) ?_
      refine wp_icmp_ne 89 dX10_firm_63 (by decide) (fun c11 => ?_) (fun c11 => ?_)
      · refine wp_iload_n dX10_firm_89 rfl 3 rfl ?_
        exact wp_iret hC rfl rfl dX10_firm_90 (pP_ok (by unfold firmB; rw [← firm_eq ⟨hq1, hq2⟩ hq hk]; unfold firmM; simp only [c1, c10, c11, if_true, if_false]))
      · refine wp_iload_n dX10_firm_66 rfl 3 rfl ?_
        refine wp_aload_n dX10_firm_67 rfl 1 rfl ?_
        refine wp_iconst (v := 5) dX10_firm_68 (by decide) ?_
        refine wp_iload_n dX10_firm_69 rfl 2 rfl ?_
        refine wp_iadd dX10_firm_70 ?_
        refine wp_iald (5 + h) (ix_add rfl rfl) (pg_k hp) (pg_l hp) (pg_i hp (by omega)) dX10_firm_71 ?_
        refine wp_top (x' := S.2.1 h) (isP_h hP (by omega)) ?_
        refine wp_isub dX10_firm_72 ?_
        refine wp_iconst (v := 1) dX10_firm_73 (by decide) ?_
        refine wp_icmp_ge 81 dX10_firm_74 (by decide) (fun c12 => ?_) (fun c12 => ?_)
        · refine wp_iload_n dX10_firm_81 rfl 3 rfl ?_
          refine wp_aload_n dX10_firm_82 rfl 1 rfl ?_
          refine wp_iconst (v := 5) dX10_firm_83 (by decide) ?_
          refine wp_iload_n dX10_firm_84 rfl 2 rfl ?_
          refine wp_iadd dX10_firm_85 ?_
          refine wp_iald (5 + h) (ix_add rfl rfl) (pg_k hp) (pg_l hp) (pg_i hp (by omega)) dX10_firm_86 ?_
          refine wp_top (x' := S.2.1 h) (isP_h hP (by omega)) ?_
          refine wp_isub dX10_firm_87 ?_
          refine wp_istore_n [1, 2, 3, 0] (by decide) rfl rfl rfl dX10_firm_88 rfl ?_
          refine wp_iload_n dX10_firm_89 rfl 3 rfl ?_
          exact wp_iret hC rfl rfl dX10_firm_90 (pP_ok (by unfold firmB; rw [← firm_eq ⟨hq1, hq2⟩ hq hk]; unfold firmM; simp only [c1, c10, c11, c12, if_true, if_false]))
        · refine wp_iconst (v := 1) dX10_firm_77 (by decide) ?_
          refine wp_goto 88 dX10_firm_78 (by decide) ?_
          refine wp_istore_n [1, 2, 3, 0] (by decide) rfl rfl rfl dX10_firm_88 rfl ?_
          refine wp_iload_n dX10_firm_89 rfl 3 rfl ?_
          exact wp_iret hC rfl rfl dX10_firm_90 (pP_ok (by unfold firmB; rw [← firm_eq ⟨hq1, hq2⟩ hq hk]; unfold firmM; simp only [c1, c10, c11, c12, if_true, if_false]))
    · refine wp_iload_n dX10_firm_39 rfl 3 rfl ?_
      refine wp_iconst (v := 2) dX10_firm_40 (by decide) ?_
      refine wp_icmp_ge 48 dX10_firm_41 (by decide) (fun c13 => ?_) (fun c13 => ?_)
      · refine wp_iload_n dX10_firm_48 rfl 3 rfl ?_
        refine wp_iconst (v := 2) dX10_firm_49 (by decide) ?_
        refine wp_idiv dX10_firm_50 (by decide) ?_
        refine wp_istore_n [1, 2, 3, 0] (by decide) rfl rfl rfl dX10_firm_51 rfl ?_
        refine wp_aload_n dX10_firm_52 rfl 0 rfl ?_
        refine wp_getO (q := 125) fX10_13 hR rfl (rfl) (by decide) (by decide) rfl dX10_firm_53 ?_
        refine wp_iconst (v := 3) dX10_firm_56 (by decide) ?_
        refine wp_iload_n dX10_firm_57 rfl 2 rfl ?_
        refine wp_imul dX10_firm_58 ?_
        refine wp_iconst (v := 2) dX10_firm_59 (by decide) ?_
        refine wp_iadd dX10_firm_60 ?_
        refine wp_iald ((3 * h) + 2) (ix_add (ix_mul rfl rfl) rfl) (rfl) (by decide) ((show (3 * h) + 2 < 15 from by omega)) dX10_firm_61 ?_
        refine wp_top (x' := B.2 3 h) (hM.2.2.2.1 h (by omega) 2 (by decide)) ?_
        refine wp_iconst (v := 2) dX10_firm_62 (by decide) ?_
        refine wp_icmp_ne 89 dX10_firm_63 (by decide) (fun c14 => ?_) (fun c14 => ?_)
        · refine wp_iload_n dX10_firm_89 rfl 3 rfl ?_
          exact wp_iret hC rfl rfl dX10_firm_90 (pP_ok (by unfold firmB; rw [← firm_eq ⟨hq1, hq2⟩ hq hk]; unfold firmM; simp only [c1, c10, c13, c14, if_true, if_false]))
        · refine wp_iload_n dX10_firm_66 rfl 3 rfl ?_
          refine wp_aload_n dX10_firm_67 rfl 1 rfl ?_
          refine wp_iconst (v := 5) dX10_firm_68 (by decide) ?_
          refine wp_iload_n dX10_firm_69 rfl 2 rfl ?_
          refine wp_iadd dX10_firm_70 ?_
          refine wp_iald (5 + h) (ix_add rfl rfl) (pg_k hp) (pg_l hp) (pg_i hp (by omega)) dX10_firm_71 ?_
          refine wp_top (x' := S.2.1 h) (isP_h hP (by omega)) ?_
          refine wp_isub dX10_firm_72 ?_
          refine wp_iconst (v := 1) dX10_firm_73 (by decide) ?_
          refine wp_icmp_ge 81 dX10_firm_74 (by decide) (fun c15 => ?_) (fun c15 => ?_)
          · refine wp_iload_n dX10_firm_81 rfl 3 rfl ?_
            refine wp_aload_n dX10_firm_82 rfl 1 rfl ?_
            refine wp_iconst (v := 5) dX10_firm_83 (by decide) ?_
            refine wp_iload_n dX10_firm_84 rfl 2 rfl ?_
            refine wp_iadd dX10_firm_85 ?_
            refine wp_iald (5 + h) (ix_add rfl rfl) (pg_k hp) (pg_l hp) (pg_i hp (by omega)) dX10_firm_86 ?_
            refine wp_top (x' := S.2.1 h) (isP_h hP (by omega)) ?_
            refine wp_isub dX10_firm_87 ?_
            refine wp_istore_n [1, 2, 3, 0] (by decide) rfl rfl rfl dX10_firm_88 rfl ?_
            refine wp_iload_n dX10_firm_89 rfl 3 rfl ?_
            exact wp_iret hC rfl rfl dX10_firm_90 (pP_ok (by unfold firmB; rw [← firm_eq ⟨hq1, hq2⟩ hq hk]; unfold firmM; simp only [c1, c10, c13, c14, c15, if_true, if_false]))
          · refine wp_iconst (v := 1) dX10_firm_77 (by decide) ?_
            refine wp_goto 88 dX10_firm_78 (by decide) ?_
            refine wp_istore_n [1, 2, 3, 0] (by decide) rfl rfl rfl dX10_firm_88 rfl ?_
            refine wp_iload_n dX10_firm_89 rfl 3 rfl ?_
            exact wp_iret hC rfl rfl dX10_firm_90 (pP_ok (by unfold firmB; rw [← firm_eq ⟨hq1, hq2⟩ hq hk]; unfold firmM; simp only [c1, c10, c13, c14, c15, if_true, if_false]))
      · refine wp_iconst (v := 1) dX10_firm_44 (by decide) ?_
        refine wp_goto 51 dX10_firm_45 (by decide) ?_
        refine wp_istore_n [1, 2, 3, 0] (by decide) rfl rfl rfl dX10_firm_51 rfl ?_
        refine wp_aload_n dX10_firm_52 rfl 0 rfl ?_
        refine wp_getO (q := 125) fX10_13 hR rfl (rfl) (by decide) (by decide) rfl dX10_firm_53 ?_
        refine wp_iconst (v := 3) dX10_firm_56 (by decide) ?_
        refine wp_iload_n dX10_firm_57 rfl 2 rfl ?_
        refine wp_imul dX10_firm_58 ?_
        refine wp_iconst (v := 2) dX10_firm_59 (by decide) ?_
        refine wp_iadd dX10_firm_60 ?_
        refine wp_iald ((3 * h) + 2) (ix_add (ix_mul rfl rfl) rfl) (rfl) (by decide) ((show (3 * h) + 2 < 15 from by omega)) dX10_firm_61 ?_
        refine wp_top (x' := B.2 3 h) (hM.2.2.2.1 h (by omega) 2 (by decide)) ?_
        refine wp_iconst (v := 2) dX10_firm_62 (by decide) ?_
        refine wp_icmp_ne 89 dX10_firm_63 (by decide) (fun c16 => ?_) (fun c16 => ?_)
        · refine wp_iload_n dX10_firm_89 rfl 3 rfl ?_
          exact wp_iret hC rfl rfl dX10_firm_90 (pP_ok (by unfold firmB; rw [← firm_eq ⟨hq1, hq2⟩ hq hk]; unfold firmM; simp only [c1, c10, c13, c16, if_true, if_false]))
        · refine wp_iload_n dX10_firm_66 rfl 3 rfl ?_
          refine wp_aload_n dX10_firm_67 rfl 1 rfl ?_
          refine wp_iconst (v := 5) dX10_firm_68 (by decide) ?_
          refine wp_iload_n dX10_firm_69 rfl 2 rfl ?_
          refine wp_iadd dX10_firm_70 ?_
          refine wp_iald (5 + h) (ix_add rfl rfl) (pg_k hp) (pg_l hp) (pg_i hp (by omega)) dX10_firm_71 ?_
          refine wp_top (x' := S.2.1 h) (isP_h hP (by omega)) ?_
          refine wp_isub dX10_firm_72 ?_
          refine wp_iconst (v := 1) dX10_firm_73 (by decide) ?_
          refine wp_icmp_ge 81 dX10_firm_74 (by decide) (fun c17 => ?_) (fun c17 => ?_)
          · refine wp_iload_n dX10_firm_81 rfl 3 rfl ?_
            refine wp_aload_n dX10_firm_82 rfl 1 rfl ?_
            refine wp_iconst (v := 5) dX10_firm_83 (by decide) ?_
            refine wp_iload_n dX10_firm_84 rfl 2 rfl ?_
            refine wp_iadd dX10_firm_85 ?_
            refine wp_iald (5 + h) (ix_add rfl rfl) (pg_k hp) (pg_l hp) (pg_i hp (by omega)) dX10_firm_86 ?_
            refine wp_top (x' := S.2.1 h) (isP_h hP (by omega)) ?_
            refine wp_isub dX10_firm_87 ?_
            refine wp_istore_n [1, 2, 3, 0] (by decide) rfl rfl rfl dX10_firm_88 rfl ?_
            refine wp_iload_n dX10_firm_89 rfl 3 rfl ?_
            exact wp_iret hC rfl rfl dX10_firm_90 (pP_ok (by unfold firmB; rw [← firm_eq ⟨hq1, hq2⟩ hq hk]; unfold firmM; simp only [c1, c10, c13, c16, c17, if_true, if_false]))
          · refine wp_iconst (v := 1) dX10_firm_77 (by decide) ?_
            refine wp_goto 88 dX10_firm_78 (by decide) ?_
            refine wp_istore_n [1, 2, 3, 0] (by decide) rfl rfl rfl dX10_firm_88 rfl ?_
            refine wp_iload_n dX10_firm_89 rfl 3 rfl ?_
            exact wp_iret hC rfl rfl dX10_firm_90 (pP_ok (by unfold firmB; rw [← firm_eq ⟨hq1, hq2⟩ hq hk]; unfold firmM; simp only [c1, c10, c13, c16, c17, if_true, if_false]))

set_option maxRecDepth 100000 in
set_option maxHeartbeats 600000 in
theorem c_X10_blows (l : Launch) (k : Nat) (F A : mmF) (R : mmR) (G : mmG) (p t : Nat) (S : SV) (B : BV) (hR : mm_RL R) (hp : pg p) (hM : isM F A 4 125 B) (hw : wfB B) (hP : isP A p S) (ht : t < B.1.2.1) : Meets l hX10_blows k 144 144 [.ref 123, .ref p, .int (nI t)] F A R G (pP (driftP (B.2 6 t) (S.2.2 5)) F A R G) := by
  refine mm_start rfl (Nat.le_of_ble_eq_true rfl) (fun X hC => ?_)
  show WP hX10_blows X 144 0 [(0, .ref 123), (1, .ref p), (2, .int (nI t))] [] F A R G
  have hw1 := hw.1
  refine wp_aload_n dX10_blows_0 rfl 0 rfl ?_
  refine wp_getO (q := 126) fX10_16 hR rfl (rfl) (by decide) (by decide) rfl dX10_blows_1 ?_
  refine wp_iconst (v := 3) dX10_blows_4 (by decide) ?_
  refine wp_iload_n dX10_blows_5 rfl 2 rfl ?_
  refine wp_imul dX10_blows_6 ?_
  refine wp_iconst (v := 2) dX10_blows_7 (by decide) ?_
  refine wp_iadd dX10_blows_8 ?_
  refine wp_iald ((3 * t) + 2) (ix_add (ix_mul rfl rfl) rfl) (rfl) (by decide) ((show (3 * t) + 2 < 12 from by omega)) dX10_blows_9 ?_
  refine wp_top (x' := B.2 6 t) (hM.2.2.2.2.1 t (by omega) 2 (by decide)) ?_
  refine wp_iconst (v := 1) dX10_blows_10 (by decide) ?_
  refine wp_icmp_ne 18 dX10_blows_11 (by decide) (fun c1 => ?_) (fun c1 => ?_)
  · refine wp_aload_n dX10_blows_18 rfl 1 rfl ?_
    refine wp_bipush (v := 13) dX10_blows_19 (by decide) ?_
    refine wp_iald 13 (rfl) (pg_k hp) (pg_l hp) (pg_i hp (by omega)) dX10_blows_21 ?_
    refine wp_top (x' := S.2.2 5) (hP 13 (by decide)) ?_
    refine wp_iconst (v := 1) dX10_blows_22 (by decide) ?_
    refine wp_isub dX10_blows_23 ?_
    exact wp_iret hC rfl rfl dX10_blows_24 (pP_ok (by unfold driftP; simp only [c1, if_true, if_false]))
  · refine wp_iconst (v := 0) dX10_blows_14 (by decide) ?_
    refine wp_goto 24 dX10_blows_15 (by decide) ?_
    exact wp_iret hC rfl rfl dX10_blows_24 (pP_ok (by unfold driftP; simp only [c1, if_true, if_false]))

set_option maxRecDepth 100000 in
set_option maxHeartbeats 600000 in
theorem c_X10_force (l : Launch) (k : Nat) (F A : mmF) (R : mmR) (G : mmG) (t : Nat) (B : BV) (hR : mm_RL R) (hM : isM F A 4 125 B) (hw : wfB B) (ht : t < B.1.2.1) : Meets l hX10_force k 144 144 [.ref 123, .int (nI t)] F A R G (pP (forceP (B.2 5 t) (B.2 6 t)) F A R G) := by
  refine mm_start rfl (Nat.le_of_ble_eq_true rfl) (fun X hC => ?_)
  show WP hX10_force X 144 0 [(0, .ref 123), (1, .int (nI t))] [] F A R G
  have hw1 := hw.1
  refine wp_aload_n dX10_force_0 rfl 0 rfl ?_
  refine wp_getO (q := 126) fX10_16 hR rfl (rfl) (by decide) (by decide) rfl dX10_force_1 ?_
  refine wp_iconst (v := 3) dX10_force_4 (by decide) ?_
  refine wp_iload_n dX10_force_5 rfl 1 rfl ?_
  refine wp_imul dX10_force_6 ?_
  refine wp_iconst (v := 1) dX10_force_7 (by decide) ?_
  refine wp_iadd dX10_force_8 ?_
  refine wp_iald ((3 * t) + 1) (ix_add (ix_mul rfl rfl) rfl) (rfl) (by decide) ((show (3 * t) + 1 < 12 from by omega)) dX10_force_9 ?_
  refine wp_top (x' := B.2 5 t) (hM.2.2.2.2.1 t (by omega) 1 (by decide)) ?_
  refine wp_aload_n dX10_force_10 rfl 0 rfl ?_
  refine wp_getO (q := 126) fX10_16 hR rfl (rfl) (by decide) (by decide) rfl dX10_force_11 ?_
  refine wp_iconst (v := 3) dX10_force_14 (by decide) ?_
  refine wp_iload_n dX10_force_15 rfl 1 rfl ?_
  refine wp_imul dX10_force_16 ?_
  refine wp_iconst (v := 2) dX10_force_17 (by decide) ?_
  refine wp_iadd dX10_force_18 ?_
  refine wp_iald ((3 * t) + 2) (ix_add (ix_mul rfl rfl) rfl) (rfl) (by decide) ((show (3 * t) + 2 < 12 from by omega)) dX10_force_19 ?_
  refine wp_top (x' := B.2 6 t) (hM.2.2.2.2.1 t (by omega) 2 (by decide)) ?_
  refine wp_iconst (v := 3) dX10_force_20 (by decide) ?_
  refine wp_icmp_ne 28 dX10_force_21 (by decide) (fun c1 => ?_) (fun c1 => ?_)
  · refine wp_iconst (v := 0) dX10_force_28 (by decide) ?_
    refine wp_iadd dX10_force_29 ?_
    exact wp_iret hC rfl rfl dX10_force_30 (pP_ok (by unfold forceP; simp only [c1, if_true, if_false]))
  · refine wp_iconst (v := 2) dX10_force_24 (by decide) ?_
    refine wp_goto 29 dX10_force_25 (by decide) ?_
    refine wp_iadd dX10_force_29 ?_
    exact wp_iret hC rfl rfl dX10_force_30 (pP_ok (by unfold forceP; simp only [c1, if_true, if_false]))

set_option maxRecDepth 100000 in
set_option maxHeartbeats 600000 in
theorem c_X10_landing (l : Launch) (k : Nat) (F A : mmF) (R : mmR) (G : mmG) (p t : Nat) (pl lk : Int32) (S : SV) (B : BV) (hR : mm_RL R) (hp : pg p) (hM : isM F A 4 125 B) (hw : wfB B) (hP : isP A p S) (ht : t < B.1.2.1) : Meets l hX10_landing (k + 1) 144 144 [.ref 123, .ref p, .int (nI t), .int pl, .int lk] F A R G (pP (landP (B.2 4 t) (B.2 6 t) pl lk (S.2.2 5)) F A R G) := by
  refine mm_start rfl (Nat.le_of_ble_eq_true rfl) (fun X hC => ?_)
  show WP hX10_landing X 144 0 [(0, .ref 123), (1, .ref p), (2, .int (nI t)), (3, .int pl), (4, .int lk)] [] F A R G
  have hw1 := hw.1
  refine wp_aload_n dX10_landing_0 rfl 0 rfl ?_
  refine wp_getO (q := 126) fX10_16 hR rfl (rfl) (by decide) (by decide) rfl dX10_landing_1 ?_
  refine wp_iconst (v := 3) dX10_landing_4 (by decide) ?_
  refine wp_iload_n dX10_landing_5 rfl 2 rfl ?_
  refine wp_imul dX10_landing_6 ?_
  refine wp_iald (3 * t) (ix_mul rfl rfl) (rfl) (by decide) ((show 3 * t < 12 from by omega)) dX10_landing_7 ?_
  refine wp_top (x' := B.2 4 t) (hM.2.2.2.2.1 t (by omega) 0 (by decide)) ?_
  refine wp_aload_n dX10_landing_8 rfl 0 rfl ?_
  refine wp_getO (q := 126) fX10_16 hR rfl (rfl) (by decide) (by decide) rfl dX10_landing_9 ?_
  refine wp_iconst (v := 3) dX10_landing_12 (by decide) ?_
  refine wp_iload_n dX10_landing_13 rfl 2 rfl ?_
  refine wp_imul dX10_landing_14 ?_
  refine wp_iconst (v := 2) dX10_landing_15 (by decide) ?_
  refine wp_iadd dX10_landing_16 ?_
  refine wp_iald ((3 * t) + 2) (ix_add (ix_mul rfl rfl) rfl) (rfl) (by decide) ((show (3 * t) + 2 < 12 from by omega)) dX10_landing_17 ?_
  refine wp_top (x' := B.2 6 t) (hM.2.2.2.2.1 t (by omega) 2 (by decide)) ?_
  refine wp_iconst (v := 3) dX10_landing_18 (by decide) ?_
  refine wp_icmp_ne 26 dX10_landing_19 (by decide) (fun c1 => ?_) (fun c1 => ?_)
  · refine wp_iconst (v := 0) dX10_landing_26 (by decide) ?_
    refine wp_iadd dX10_landing_27 ?_
    refine wp_istore [1, 2, 3, 4, 5, 0] (by decide) rfl rfl rfl dX10_landing_28 ?_
    refine wp_iload dX10_landing_30 4 rfl ?_
    refine wp_if_ne 39 dX10_landing_32 (by decide) (fun c2 => ?_) (fun c2 => ?_)
    · refine wp_iload dX10_landing_39 4 rfl ?_
      refine wp_iconst (v := 1) dX10_landing_41 (by decide) ?_
      refine wp_icmp_ne 50 dX10_landing_42 (by decide) (fun c3 => ?_) (fun c3 => ?_)
      · refine wp_iload dX10_landing_50 5 rfl ?_
        refine wp_ineg dX10_landing_52 ?_
        refine wp_istore [1, 2, 3, 4, 5, 6, 0] (by decide) rfl rfl rfl dX10_landing_53 ?_
        refine wp_iload_n dX10_landing_55 rfl 3 rfl ?_
        refine wp_aload_n dX10_landing_56 rfl 0 rfl ?_
        refine wp_getO (q := 126) fX10_16 hR rfl (rfl) (by decide) (by decide) rfl dX10_landing_57 ?_
        refine wp_iconst (v := 3) dX10_landing_60 (by decide) ?_
        refine wp_iload_n dX10_landing_61 rfl 2 rfl ?_
        refine wp_imul dX10_landing_62 ?_
        refine wp_iconst (v := 2) dX10_landing_63 (by decide) ?_
        refine wp_iadd dX10_landing_64 ?_
        refine wp_iald ((3 * t) + 2) (ix_add (ix_mul rfl rfl) rfl) (rfl) (by decide) ((show (3 * t) + 2 < 12 from by omega)) dX10_landing_65 ?_
        refine wp_top (x' := B.2 6 t) (hM.2.2.2.2.1 t (by omega) 2 (by decide)) ?_
        refine wp_iconst (v := 2) dX10_landing_66 (by decide) ?_
        refine wp_icmp_ne 76 dX10_landing_67 (by decide) (fun c4 => ?_) (fun c4 => ?_)
        · refine wp_iload dX10_landing_76 6 rfl ?_
          refine wp_iadd dX10_landing_78 ?_
          refine wp_aload_n dX10_landing_79 rfl 0 rfl ?_
          refine wp_aload_n dX10_landing_80 rfl 1 rfl ?_
          refine wp_iload_n dX10_landing_81 rfl 2 rfl ?_
          refine wp_callP (e := driftP (B.2 6 t) (S.2.2 5)) (mm_siteV (av := [.ref p, .int (nI t)]) hC lX10_148 (rfl) (by decide) ⟨_, rfl, rfl⟩ rfl rfl (Nat.le_of_ble_eq_true rfl) dX10_landing_82) (c_X10_blows l k _ _ _ _ p t S B hR hp hM hw hP ht) (by omega) (by decide) ?_
          refine wp_iadd dX10_landing_85 ?_
          refine wp_istore [1, 2, 3, 4, 5, 6, 7, 0] (by decide) rfl rfl rfl dX10_landing_86 ?_
          refine wp_iload dX10_landing_88 7 rfl ?_
          refine wp_i2l dX10_landing_90 ?_
          refine wp_lconst (v := 0) dX10_landing_91 rfl ?_
          refine wp_topL (x' := (0 : Int32).toInt64) (by decide) ?_
          refine wp_ldc2 (v := 7) k_889 dX10_landing_92 ?_
          refine wp_topL (x' := (7 : Int32).toInt64) (by decide) ?_
          refine wp_callP (e := inP ((pl + (-((B.2 4 t) + 0))) + (driftP (B.2 6 t) (S.2.2 5))) 0 7) (mm_siteS (av := [.long (((pl + (-((B.2 4 t) + 0))) + (driftP (B.2 6 t) (S.2.2 5))).toInt64), .long ((0 : Int32).toInt64), .long ((7 : Int32).toInt64)]) hC lX10_78 rfl rfl (Nat.le_of_ble_eq_true rfl) dX10_landing_95) (c_X10_in l k _ _ _ _ ((pl + (-((B.2 4 t) + 0))) + (driftP (B.2 6 t) (S.2.2 5))) 0 7) (by omega) (by decide) ?_
          refine wp_if_eq 106 dX10_landing_98 (by decide) (fun c5 => ?_) (fun c5 => ?_)
          · simp only [in8, Int32.neg_neg, Int32.neg_zero] at c5
            refine wp_bipush (v := 8) dX10_landing_106 (by decide) ?_
            exact wp_iret hC rfl rfl dX10_landing_108 (pP_ok (by unfold landP astrayP; simp only [if_neg c1, if_neg c2, if_neg c3, if_neg c4, if_pos c5, Int32.neg_neg, Int32.neg_zero]))
          · simp only [in8, Int32.neg_neg, Int32.neg_zero] at c5
            refine wp_iload dX10_landing_101 7 rfl ?_
            refine wp_goto 108 dX10_landing_103 (by decide) ?_
            exact wp_iret hC rfl rfl dX10_landing_108 (pP_ok (by unfold landP astrayP; simp only [if_neg c1, if_neg c2, if_neg c3, if_neg c4, if_neg c5, Int32.neg_neg, Int32.neg_zero]))
        · refine wp_iload dX10_landing_70 6 rfl ?_
          refine wp_ineg dX10_landing_72 ?_
          refine wp_goto 78 dX10_landing_73 (by decide) ?_
          refine wp_iadd dX10_landing_78 ?_
          refine wp_aload_n dX10_landing_79 rfl 0 rfl ?_
          refine wp_aload_n dX10_landing_80 rfl 1 rfl ?_
          refine wp_iload_n dX10_landing_81 rfl 2 rfl ?_
          refine wp_callP (e := driftP (B.2 6 t) (S.2.2 5)) (mm_siteV (av := [.ref p, .int (nI t)]) hC lX10_148 (rfl) (by decide) ⟨_, rfl, rfl⟩ rfl rfl (Nat.le_of_ble_eq_true rfl) dX10_landing_82) (c_X10_blows l k _ _ _ _ p t S B hR hp hM hw hP ht) (by omega) (by decide) ?_
          refine wp_iadd dX10_landing_85 ?_
          refine wp_istore [1, 2, 3, 4, 5, 6, 7, 0] (by decide) rfl rfl rfl dX10_landing_86 ?_
          refine wp_iload dX10_landing_88 7 rfl ?_
          refine wp_i2l dX10_landing_90 ?_
          refine wp_lconst (v := 0) dX10_landing_91 rfl ?_
          refine wp_topL (x' := (0 : Int32).toInt64) (by decide) ?_
          refine wp_ldc2 (v := 7) k_889 dX10_landing_92 ?_
          refine wp_topL (x' := (7 : Int32).toInt64) (by decide) ?_
          refine wp_callP (e := inP ((pl + (-(-((B.2 4 t) + 0)))) + (driftP (B.2 6 t) (S.2.2 5))) 0 7) (mm_siteS (av := [.long (((pl + (-(-((B.2 4 t) + 0)))) + (driftP (B.2 6 t) (S.2.2 5))).toInt64), .long ((0 : Int32).toInt64), .long ((7 : Int32).toInt64)]) hC lX10_78 rfl rfl (Nat.le_of_ble_eq_true rfl) dX10_landing_95) (c_X10_in l k _ _ _ _ ((pl + (-(-((B.2 4 t) + 0)))) + (driftP (B.2 6 t) (S.2.2 5))) 0 7) (by omega) (by decide) ?_
          refine wp_if_eq 106 dX10_landing_98 (by decide) (fun c6 => ?_) (fun c6 => ?_)
          · simp only [in8, Int32.neg_neg, Int32.neg_zero] at c6
            refine wp_bipush (v := 8) dX10_landing_106 (by decide) ?_
            exact wp_iret hC rfl rfl dX10_landing_108 (pP_ok (by unfold landP astrayP; simp only [if_neg c1, if_neg c2, if_neg c3, if_pos c4, if_pos c6, Int32.neg_neg, Int32.neg_zero]))
          · simp only [in8, Int32.neg_neg, Int32.neg_zero] at c6
            refine wp_iload dX10_landing_101 7 rfl ?_
            refine wp_goto 108 dX10_landing_103 (by decide) ?_
            exact wp_iret hC rfl rfl dX10_landing_108 (pP_ok (by unfold landP astrayP; simp only [if_neg c1, if_neg c2, if_neg c3, if_pos c4, if_neg c6, Int32.neg_neg, Int32.neg_zero]))
      · refine wp_iload dX10_landing_45 5 rfl ?_
        refine wp_goto 53 dX10_landing_47 (by decide) ?_
        refine wp_istore [1, 2, 3, 4, 5, 6, 0] (by decide) rfl rfl rfl dX10_landing_53 ?_
        refine wp_iload_n dX10_landing_55 rfl 3 rfl ?_
        refine wp_aload_n dX10_landing_56 rfl 0 rfl ?_
        refine wp_getO (q := 126) fX10_16 hR rfl (rfl) (by decide) (by decide) rfl dX10_landing_57 ?_
        refine wp_iconst (v := 3) dX10_landing_60 (by decide) ?_
        refine wp_iload_n dX10_landing_61 rfl 2 rfl ?_
        refine wp_imul dX10_landing_62 ?_
        refine wp_iconst (v := 2) dX10_landing_63 (by decide) ?_
        refine wp_iadd dX10_landing_64 ?_
        refine wp_iald ((3 * t) + 2) (ix_add (ix_mul rfl rfl) rfl) (rfl) (by decide) ((show (3 * t) + 2 < 12 from by omega)) dX10_landing_65 ?_
        refine wp_top (x' := B.2 6 t) (hM.2.2.2.2.1 t (by omega) 2 (by decide)) ?_
        refine wp_iconst (v := 2) dX10_landing_66 (by decide) ?_
        refine wp_icmp_ne 76 dX10_landing_67 (by decide) (fun c7 => ?_) (fun c7 => ?_)
        · refine wp_iload dX10_landing_76 6 rfl ?_
          refine wp_iadd dX10_landing_78 ?_
          refine wp_aload_n dX10_landing_79 rfl 0 rfl ?_
          refine wp_aload_n dX10_landing_80 rfl 1 rfl ?_
          refine wp_iload_n dX10_landing_81 rfl 2 rfl ?_
          refine wp_callP (e := driftP (B.2 6 t) (S.2.2 5)) (mm_siteV (av := [.ref p, .int (nI t)]) hC lX10_148 (rfl) (by decide) ⟨_, rfl, rfl⟩ rfl rfl (Nat.le_of_ble_eq_true rfl) dX10_landing_82) (c_X10_blows l k _ _ _ _ p t S B hR hp hM hw hP ht) (by omega) (by decide) ?_
          refine wp_iadd dX10_landing_85 ?_
          refine wp_istore [1, 2, 3, 4, 5, 6, 7, 0] (by decide) rfl rfl rfl dX10_landing_86 ?_
          refine wp_iload dX10_landing_88 7 rfl ?_
          refine wp_i2l dX10_landing_90 ?_
          refine wp_lconst (v := 0) dX10_landing_91 rfl ?_
          refine wp_topL (x' := (0 : Int32).toInt64) (by decide) ?_
          refine wp_ldc2 (v := 7) k_889 dX10_landing_92 ?_
          refine wp_topL (x' := (7 : Int32).toInt64) (by decide) ?_
          refine wp_callP (e := inP ((pl + ((B.2 4 t) + 0)) + (driftP (B.2 6 t) (S.2.2 5))) 0 7) (mm_siteS (av := [.long (((pl + ((B.2 4 t) + 0)) + (driftP (B.2 6 t) (S.2.2 5))).toInt64), .long ((0 : Int32).toInt64), .long ((7 : Int32).toInt64)]) hC lX10_78 rfl rfl (Nat.le_of_ble_eq_true rfl) dX10_landing_95) (c_X10_in l k _ _ _ _ ((pl + ((B.2 4 t) + 0)) + (driftP (B.2 6 t) (S.2.2 5))) 0 7) (by omega) (by decide) ?_
          refine wp_if_eq 106 dX10_landing_98 (by decide) (fun c8 => ?_) (fun c8 => ?_)
          · simp only [in8, Int32.neg_neg, Int32.neg_zero] at c8
            refine wp_bipush (v := 8) dX10_landing_106 (by decide) ?_
            exact wp_iret hC rfl rfl dX10_landing_108 (pP_ok (by unfold landP astrayP; simp only [if_neg c1, if_neg c2, if_pos c3, if_neg c7, if_pos c8, Int32.neg_neg, Int32.neg_zero]))
          · simp only [in8, Int32.neg_neg, Int32.neg_zero] at c8
            refine wp_iload dX10_landing_101 7 rfl ?_
            refine wp_goto 108 dX10_landing_103 (by decide) ?_
            exact wp_iret hC rfl rfl dX10_landing_108 (pP_ok (by unfold landP astrayP; simp only [if_neg c1, if_neg c2, if_pos c3, if_neg c7, if_neg c8, Int32.neg_neg, Int32.neg_zero]))
        · refine wp_iload dX10_landing_70 6 rfl ?_
          refine wp_ineg dX10_landing_72 ?_
          refine wp_goto 78 dX10_landing_73 (by decide) ?_
          refine wp_iadd dX10_landing_78 ?_
          refine wp_aload_n dX10_landing_79 rfl 0 rfl ?_
          refine wp_aload_n dX10_landing_80 rfl 1 rfl ?_
          refine wp_iload_n dX10_landing_81 rfl 2 rfl ?_
          refine wp_callP (e := driftP (B.2 6 t) (S.2.2 5)) (mm_siteV (av := [.ref p, .int (nI t)]) hC lX10_148 (rfl) (by decide) ⟨_, rfl, rfl⟩ rfl rfl (Nat.le_of_ble_eq_true rfl) dX10_landing_82) (c_X10_blows l k _ _ _ _ p t S B hR hp hM hw hP ht) (by omega) (by decide) ?_
          refine wp_iadd dX10_landing_85 ?_
          refine wp_istore [1, 2, 3, 4, 5, 6, 7, 0] (by decide) rfl rfl rfl dX10_landing_86 ?_
          refine wp_iload dX10_landing_88 7 rfl ?_
          refine wp_i2l dX10_landing_90 ?_
          refine wp_lconst (v := 0) dX10_landing_91 rfl ?_
          refine wp_topL (x' := (0 : Int32).toInt64) (by decide) ?_
          refine wp_ldc2 (v := 7) k_889 dX10_landing_92 ?_
          refine wp_topL (x' := (7 : Int32).toInt64) (by decide) ?_
          refine wp_callP (e := inP ((pl + (-((B.2 4 t) + 0))) + (driftP (B.2 6 t) (S.2.2 5))) 0 7) (mm_siteS (av := [.long (((pl + (-((B.2 4 t) + 0))) + (driftP (B.2 6 t) (S.2.2 5))).toInt64), .long ((0 : Int32).toInt64), .long ((7 : Int32).toInt64)]) hC lX10_78 rfl rfl (Nat.le_of_ble_eq_true rfl) dX10_landing_95) (c_X10_in l k _ _ _ _ ((pl + (-((B.2 4 t) + 0))) + (driftP (B.2 6 t) (S.2.2 5))) 0 7) (by omega) (by decide) ?_
          refine wp_if_eq 106 dX10_landing_98 (by decide) (fun c9 => ?_) (fun c9 => ?_)
          · simp only [in8, Int32.neg_neg, Int32.neg_zero] at c9
            refine wp_bipush (v := 8) dX10_landing_106 (by decide) ?_
            exact wp_iret hC rfl rfl dX10_landing_108 (pP_ok (by unfold landP astrayP; simp only [if_neg c1, if_neg c2, if_pos c3, if_pos c7, if_pos c9, Int32.neg_neg, Int32.neg_zero]))
          · simp only [in8, Int32.neg_neg, Int32.neg_zero] at c9
            refine wp_iload dX10_landing_101 7 rfl ?_
            refine wp_goto 108 dX10_landing_103 (by decide) ?_
            exact wp_iret hC rfl rfl dX10_landing_108 (pP_ok (by unfold landP astrayP; simp only [if_neg c1, if_neg c2, if_pos c3, if_pos c7, if_neg c9, Int32.neg_neg, Int32.neg_zero]))
    · refine wp_iconst (v := 0) dX10_landing_35 (by decide) ?_
      refine wp_goto 53 dX10_landing_36 (by decide) ?_
      refine wp_istore [1, 2, 3, 4, 5, 6, 0] (by decide) rfl rfl rfl dX10_landing_53 ?_
      refine wp_iload_n dX10_landing_55 rfl 3 rfl ?_
      refine wp_aload_n dX10_landing_56 rfl 0 rfl ?_
      refine wp_getO (q := 126) fX10_16 hR rfl (rfl) (by decide) (by decide) rfl dX10_landing_57 ?_
      refine wp_iconst (v := 3) dX10_landing_60 (by decide) ?_
      refine wp_iload_n dX10_landing_61 rfl 2 rfl ?_
      refine wp_imul dX10_landing_62 ?_
      refine wp_iconst (v := 2) dX10_landing_63 (by decide) ?_
      refine wp_iadd dX10_landing_64 ?_
      refine wp_iald ((3 * t) + 2) (ix_add (ix_mul rfl rfl) rfl) (rfl) (by decide) ((show (3 * t) + 2 < 12 from by omega)) dX10_landing_65 ?_
      refine wp_top (x' := B.2 6 t) (hM.2.2.2.2.1 t (by omega) 2 (by decide)) ?_
      refine wp_iconst (v := 2) dX10_landing_66 (by decide) ?_
      refine wp_icmp_ne 76 dX10_landing_67 (by decide) (fun c10 => ?_) (fun c10 => ?_)
      · refine wp_iload dX10_landing_76 6 rfl ?_
        refine wp_iadd dX10_landing_78 ?_
        refine wp_aload_n dX10_landing_79 rfl 0 rfl ?_
        refine wp_aload_n dX10_landing_80 rfl 1 rfl ?_
        refine wp_iload_n dX10_landing_81 rfl 2 rfl ?_
        refine wp_callP (e := driftP (B.2 6 t) (S.2.2 5)) (mm_siteV (av := [.ref p, .int (nI t)]) hC lX10_148 (rfl) (by decide) ⟨_, rfl, rfl⟩ rfl rfl (Nat.le_of_ble_eq_true rfl) dX10_landing_82) (c_X10_blows l k _ _ _ _ p t S B hR hp hM hw hP ht) (by omega) (by decide) ?_
        refine wp_iadd dX10_landing_85 ?_
        refine wp_istore [1, 2, 3, 4, 5, 6, 7, 0] (by decide) rfl rfl rfl dX10_landing_86 ?_
        refine wp_iload dX10_landing_88 7 rfl ?_
        refine wp_i2l dX10_landing_90 ?_
        refine wp_lconst (v := 0) dX10_landing_91 rfl ?_
        refine wp_topL (x' := (0 : Int32).toInt64) (by decide) ?_
        refine wp_ldc2 (v := 7) k_889 dX10_landing_92 ?_
        refine wp_topL (x' := (7 : Int32).toInt64) (by decide) ?_
        refine wp_callP (e := inP ((pl + 0) + (driftP (B.2 6 t) (S.2.2 5))) 0 7) (mm_siteS (av := [.long (((pl + 0) + (driftP (B.2 6 t) (S.2.2 5))).toInt64), .long ((0 : Int32).toInt64), .long ((7 : Int32).toInt64)]) hC lX10_78 rfl rfl (Nat.le_of_ble_eq_true rfl) dX10_landing_95) (c_X10_in l k _ _ _ _ ((pl + 0) + (driftP (B.2 6 t) (S.2.2 5))) 0 7) (by omega) (by decide) ?_
        refine wp_if_eq 106 dX10_landing_98 (by decide) (fun c11 => ?_) (fun c11 => ?_)
        · simp only [in8, Int32.neg_neg, Int32.neg_zero] at c11
          refine wp_bipush (v := 8) dX10_landing_106 (by decide) ?_
          exact wp_iret hC rfl rfl dX10_landing_108 (pP_ok (by unfold landP astrayP; simp only [if_neg c1, if_pos c2, if_neg c10, if_pos c11, Int32.neg_neg, Int32.neg_zero]))
        · simp only [in8, Int32.neg_neg, Int32.neg_zero] at c11
          refine wp_iload dX10_landing_101 7 rfl ?_
          refine wp_goto 108 dX10_landing_103 (by decide) ?_
          exact wp_iret hC rfl rfl dX10_landing_108 (pP_ok (by unfold landP astrayP; simp only [if_neg c1, if_pos c2, if_neg c10, if_neg c11, Int32.neg_neg, Int32.neg_zero]))
      · refine wp_iload dX10_landing_70 6 rfl ?_
        refine wp_ineg dX10_landing_72 ?_
        refine wp_goto 78 dX10_landing_73 (by decide) ?_
        refine wp_iadd dX10_landing_78 ?_
        refine wp_aload_n dX10_landing_79 rfl 0 rfl ?_
        refine wp_aload_n dX10_landing_80 rfl 1 rfl ?_
        refine wp_iload_n dX10_landing_81 rfl 2 rfl ?_
        refine wp_callP (e := driftP (B.2 6 t) (S.2.2 5)) (mm_siteV (av := [.ref p, .int (nI t)]) hC lX10_148 (rfl) (by decide) ⟨_, rfl, rfl⟩ rfl rfl (Nat.le_of_ble_eq_true rfl) dX10_landing_82) (c_X10_blows l k _ _ _ _ p t S B hR hp hM hw hP ht) (by omega) (by decide) ?_
        refine wp_iadd dX10_landing_85 ?_
        refine wp_istore [1, 2, 3, 4, 5, 6, 7, 0] (by decide) rfl rfl rfl dX10_landing_86 ?_
        refine wp_iload dX10_landing_88 7 rfl ?_
        refine wp_i2l dX10_landing_90 ?_
        refine wp_lconst (v := 0) dX10_landing_91 rfl ?_
        refine wp_topL (x' := (0 : Int32).toInt64) (by decide) ?_
        refine wp_ldc2 (v := 7) k_889 dX10_landing_92 ?_
        refine wp_topL (x' := (7 : Int32).toInt64) (by decide) ?_
        refine wp_callP (e := inP ((pl + (-0)) + (driftP (B.2 6 t) (S.2.2 5))) 0 7) (mm_siteS (av := [.long (((pl + (-0)) + (driftP (B.2 6 t) (S.2.2 5))).toInt64), .long ((0 : Int32).toInt64), .long ((7 : Int32).toInt64)]) hC lX10_78 rfl rfl (Nat.le_of_ble_eq_true rfl) dX10_landing_95) (c_X10_in l k _ _ _ _ ((pl + (-0)) + (driftP (B.2 6 t) (S.2.2 5))) 0 7) (by omega) (by decide) ?_
        refine wp_if_eq 106 dX10_landing_98 (by decide) (fun c12 => ?_) (fun c12 => ?_)
        · simp only [in8, Int32.neg_neg, Int32.neg_zero] at c12
          refine wp_bipush (v := 8) dX10_landing_106 (by decide) ?_
          exact wp_iret hC rfl rfl dX10_landing_108 (pP_ok (by unfold landP astrayP; simp only [if_neg c1, if_pos c2, if_pos c10, if_pos c12, Int32.neg_neg, Int32.neg_zero]))
        · simp only [in8, Int32.neg_neg, Int32.neg_zero] at c12
          refine wp_iload dX10_landing_101 7 rfl ?_
          refine wp_goto 108 dX10_landing_103 (by decide) ?_
          exact wp_iret hC rfl rfl dX10_landing_108 (pP_ok (by unfold landP astrayP; simp only [if_neg c1, if_pos c2, if_pos c10, if_neg c12, Int32.neg_neg, Int32.neg_zero]))
  · refine wp_iconst (v := 1) dX10_landing_22 (by decide) ?_
    refine wp_goto 27 dX10_landing_23 (by decide) ?_
    refine wp_iadd dX10_landing_27 ?_
    refine wp_istore [1, 2, 3, 4, 5, 0] (by decide) rfl rfl rfl dX10_landing_28 ?_
    refine wp_iload dX10_landing_30 4 rfl ?_
    refine wp_if_ne 39 dX10_landing_32 (by decide) (fun c13 => ?_) (fun c13 => ?_)
    · refine wp_iload dX10_landing_39 4 rfl ?_
      refine wp_iconst (v := 1) dX10_landing_41 (by decide) ?_
      refine wp_icmp_ne 50 dX10_landing_42 (by decide) (fun c14 => ?_) (fun c14 => ?_)
      · refine wp_iload dX10_landing_50 5 rfl ?_
        refine wp_ineg dX10_landing_52 ?_
        refine wp_istore [1, 2, 3, 4, 5, 6, 0] (by decide) rfl rfl rfl dX10_landing_53 ?_
        refine wp_iload_n dX10_landing_55 rfl 3 rfl ?_
        refine wp_aload_n dX10_landing_56 rfl 0 rfl ?_
        refine wp_getO (q := 126) fX10_16 hR rfl (rfl) (by decide) (by decide) rfl dX10_landing_57 ?_
        refine wp_iconst (v := 3) dX10_landing_60 (by decide) ?_
        refine wp_iload_n dX10_landing_61 rfl 2 rfl ?_
        refine wp_imul dX10_landing_62 ?_
        refine wp_iconst (v := 2) dX10_landing_63 (by decide) ?_
        refine wp_iadd dX10_landing_64 ?_
        refine wp_iald ((3 * t) + 2) (ix_add (ix_mul rfl rfl) rfl) (rfl) (by decide) ((show (3 * t) + 2 < 12 from by omega)) dX10_landing_65 ?_
        refine wp_top (x' := B.2 6 t) (hM.2.2.2.2.1 t (by omega) 2 (by decide)) ?_
        refine wp_iconst (v := 2) dX10_landing_66 (by decide) ?_
        refine wp_icmp_ne 76 dX10_landing_67 (by decide) (fun c15 => ?_) (fun c15 => ?_)
        · refine wp_iload dX10_landing_76 6 rfl ?_
          refine wp_iadd dX10_landing_78 ?_
          refine wp_aload_n dX10_landing_79 rfl 0 rfl ?_
          refine wp_aload_n dX10_landing_80 rfl 1 rfl ?_
          refine wp_iload_n dX10_landing_81 rfl 2 rfl ?_
          refine wp_callP (e := driftP (B.2 6 t) (S.2.2 5)) (mm_siteV (av := [.ref p, .int (nI t)]) hC lX10_148 (rfl) (by decide) ⟨_, rfl, rfl⟩ rfl rfl (Nat.le_of_ble_eq_true rfl) dX10_landing_82) (c_X10_blows l k _ _ _ _ p t S B hR hp hM hw hP ht) (by omega) (by decide) ?_
          refine wp_iadd dX10_landing_85 ?_
          refine wp_istore [1, 2, 3, 4, 5, 6, 7, 0] (by decide) rfl rfl rfl dX10_landing_86 ?_
          refine wp_iload dX10_landing_88 7 rfl ?_
          refine wp_i2l dX10_landing_90 ?_
          refine wp_lconst (v := 0) dX10_landing_91 rfl ?_
          refine wp_topL (x' := (0 : Int32).toInt64) (by decide) ?_
          refine wp_ldc2 (v := 7) k_889 dX10_landing_92 ?_
          refine wp_topL (x' := (7 : Int32).toInt64) (by decide) ?_
          refine wp_callP (e := inP ((pl + (-((B.2 4 t) + 1))) + (driftP (B.2 6 t) (S.2.2 5))) 0 7) (mm_siteS (av := [.long (((pl + (-((B.2 4 t) + 1))) + (driftP (B.2 6 t) (S.2.2 5))).toInt64), .long ((0 : Int32).toInt64), .long ((7 : Int32).toInt64)]) hC lX10_78 rfl rfl (Nat.le_of_ble_eq_true rfl) dX10_landing_95) (c_X10_in l k _ _ _ _ ((pl + (-((B.2 4 t) + 1))) + (driftP (B.2 6 t) (S.2.2 5))) 0 7) (by omega) (by decide) ?_
          refine wp_if_eq 106 dX10_landing_98 (by decide) (fun c16 => ?_) (fun c16 => ?_)
          · simp only [in8, Int32.neg_neg, Int32.neg_zero] at c16
            refine wp_bipush (v := 8) dX10_landing_106 (by decide) ?_
            exact wp_iret hC rfl rfl dX10_landing_108 (pP_ok (by unfold landP astrayP; simp only [if_pos c1, if_neg c13, if_neg c14, if_neg c15, if_pos c16, Int32.neg_neg, Int32.neg_zero]))
          · simp only [in8, Int32.neg_neg, Int32.neg_zero] at c16
            refine wp_iload dX10_landing_101 7 rfl ?_
            refine wp_goto 108 dX10_landing_103 (by decide) ?_
            exact wp_iret hC rfl rfl dX10_landing_108 (pP_ok (by unfold landP astrayP; simp only [if_pos c1, if_neg c13, if_neg c14, if_neg c15, if_neg c16, Int32.neg_neg, Int32.neg_zero]))
        · refine wp_iload dX10_landing_70 6 rfl ?_
          refine wp_ineg dX10_landing_72 ?_
          refine wp_goto 78 dX10_landing_73 (by decide) ?_
          refine wp_iadd dX10_landing_78 ?_
          refine wp_aload_n dX10_landing_79 rfl 0 rfl ?_
          refine wp_aload_n dX10_landing_80 rfl 1 rfl ?_
          refine wp_iload_n dX10_landing_81 rfl 2 rfl ?_
          refine wp_callP (e := driftP (B.2 6 t) (S.2.2 5)) (mm_siteV (av := [.ref p, .int (nI t)]) hC lX10_148 (rfl) (by decide) ⟨_, rfl, rfl⟩ rfl rfl (Nat.le_of_ble_eq_true rfl) dX10_landing_82) (c_X10_blows l k _ _ _ _ p t S B hR hp hM hw hP ht) (by omega) (by decide) ?_
          refine wp_iadd dX10_landing_85 ?_
          refine wp_istore [1, 2, 3, 4, 5, 6, 7, 0] (by decide) rfl rfl rfl dX10_landing_86 ?_
          refine wp_iload dX10_landing_88 7 rfl ?_
          refine wp_i2l dX10_landing_90 ?_
          refine wp_lconst (v := 0) dX10_landing_91 rfl ?_
          refine wp_topL (x' := (0 : Int32).toInt64) (by decide) ?_
          refine wp_ldc2 (v := 7) k_889 dX10_landing_92 ?_
          refine wp_topL (x' := (7 : Int32).toInt64) (by decide) ?_
          refine wp_callP (e := inP ((pl + (-(-((B.2 4 t) + 1)))) + (driftP (B.2 6 t) (S.2.2 5))) 0 7) (mm_siteS (av := [.long (((pl + (-(-((B.2 4 t) + 1)))) + (driftP (B.2 6 t) (S.2.2 5))).toInt64), .long ((0 : Int32).toInt64), .long ((7 : Int32).toInt64)]) hC lX10_78 rfl rfl (Nat.le_of_ble_eq_true rfl) dX10_landing_95) (c_X10_in l k _ _ _ _ ((pl + (-(-((B.2 4 t) + 1)))) + (driftP (B.2 6 t) (S.2.2 5))) 0 7) (by omega) (by decide) ?_
          refine wp_if_eq 106 dX10_landing_98 (by decide) (fun c17 => ?_) (fun c17 => ?_)
          · simp only [in8, Int32.neg_neg, Int32.neg_zero] at c17
            refine wp_bipush (v := 8) dX10_landing_106 (by decide) ?_
            exact wp_iret hC rfl rfl dX10_landing_108 (pP_ok (by unfold landP astrayP; simp only [if_pos c1, if_neg c13, if_neg c14, if_pos c15, if_pos c17, Int32.neg_neg, Int32.neg_zero]))
          · simp only [in8, Int32.neg_neg, Int32.neg_zero] at c17
            refine wp_iload dX10_landing_101 7 rfl ?_
            refine wp_goto 108 dX10_landing_103 (by decide) ?_
            exact wp_iret hC rfl rfl dX10_landing_108 (pP_ok (by unfold landP astrayP; simp only [if_pos c1, if_neg c13, if_neg c14, if_pos c15, if_neg c17, Int32.neg_neg, Int32.neg_zero]))
      · refine wp_iload dX10_landing_45 5 rfl ?_
        refine wp_goto 53 dX10_landing_47 (by decide) ?_
        refine wp_istore [1, 2, 3, 4, 5, 6, 0] (by decide) rfl rfl rfl dX10_landing_53 ?_
        refine wp_iload_n dX10_landing_55 rfl 3 rfl ?_
        refine wp_aload_n dX10_landing_56 rfl 0 rfl ?_
        refine wp_getO (q := 126) fX10_16 hR rfl (rfl) (by decide) (by decide) rfl dX10_landing_57 ?_
        refine wp_iconst (v := 3) dX10_landing_60 (by decide) ?_
        refine wp_iload_n dX10_landing_61 rfl 2 rfl ?_
        refine wp_imul dX10_landing_62 ?_
        refine wp_iconst (v := 2) dX10_landing_63 (by decide) ?_
        refine wp_iadd dX10_landing_64 ?_
        refine wp_iald ((3 * t) + 2) (ix_add (ix_mul rfl rfl) rfl) (rfl) (by decide) ((show (3 * t) + 2 < 12 from by omega)) dX10_landing_65 ?_
        refine wp_top (x' := B.2 6 t) (hM.2.2.2.2.1 t (by omega) 2 (by decide)) ?_
        refine wp_iconst (v := 2) dX10_landing_66 (by decide) ?_
        refine wp_icmp_ne 76 dX10_landing_67 (by decide) (fun c18 => ?_) (fun c18 => ?_)
        · refine wp_iload dX10_landing_76 6 rfl ?_
          refine wp_iadd dX10_landing_78 ?_
          refine wp_aload_n dX10_landing_79 rfl 0 rfl ?_
          refine wp_aload_n dX10_landing_80 rfl 1 rfl ?_
          refine wp_iload_n dX10_landing_81 rfl 2 rfl ?_
          refine wp_callP (e := driftP (B.2 6 t) (S.2.2 5)) (mm_siteV (av := [.ref p, .int (nI t)]) hC lX10_148 (rfl) (by decide) ⟨_, rfl, rfl⟩ rfl rfl (Nat.le_of_ble_eq_true rfl) dX10_landing_82) (c_X10_blows l k _ _ _ _ p t S B hR hp hM hw hP ht) (by omega) (by decide) ?_
          refine wp_iadd dX10_landing_85 ?_
          refine wp_istore [1, 2, 3, 4, 5, 6, 7, 0] (by decide) rfl rfl rfl dX10_landing_86 ?_
          refine wp_iload dX10_landing_88 7 rfl ?_
          refine wp_i2l dX10_landing_90 ?_
          refine wp_lconst (v := 0) dX10_landing_91 rfl ?_
          refine wp_topL (x' := (0 : Int32).toInt64) (by decide) ?_
          refine wp_ldc2 (v := 7) k_889 dX10_landing_92 ?_
          refine wp_topL (x' := (7 : Int32).toInt64) (by decide) ?_
          refine wp_callP (e := inP ((pl + ((B.2 4 t) + 1)) + (driftP (B.2 6 t) (S.2.2 5))) 0 7) (mm_siteS (av := [.long (((pl + ((B.2 4 t) + 1)) + (driftP (B.2 6 t) (S.2.2 5))).toInt64), .long ((0 : Int32).toInt64), .long ((7 : Int32).toInt64)]) hC lX10_78 rfl rfl (Nat.le_of_ble_eq_true rfl) dX10_landing_95) (c_X10_in l k _ _ _ _ ((pl + ((B.2 4 t) + 1)) + (driftP (B.2 6 t) (S.2.2 5))) 0 7) (by omega) (by decide) ?_
          refine wp_if_eq 106 dX10_landing_98 (by decide) (fun c19 => ?_) (fun c19 => ?_)
          · simp only [in8, Int32.neg_neg, Int32.neg_zero] at c19
            refine wp_bipush (v := 8) dX10_landing_106 (by decide) ?_
            exact wp_iret hC rfl rfl dX10_landing_108 (pP_ok (by unfold landP astrayP; simp only [if_pos c1, if_neg c13, if_pos c14, if_neg c18, if_pos c19, Int32.neg_neg, Int32.neg_zero]))
          · simp only [in8, Int32.neg_neg, Int32.neg_zero] at c19
            refine wp_iload dX10_landing_101 7 rfl ?_
            refine wp_goto 108 dX10_landing_103 (by decide) ?_
            exact wp_iret hC rfl rfl dX10_landing_108 (pP_ok (by unfold landP astrayP; simp only [if_pos c1, if_neg c13, if_pos c14, if_neg c18, if_neg c19, Int32.neg_neg, Int32.neg_zero]))
        · refine wp_iload dX10_landing_70 6 rfl ?_
          refine wp_ineg dX10_landing_72 ?_
          refine wp_goto 78 dX10_landing_73 (by decide) ?_
          refine wp_iadd dX10_landing_78 ?_
          refine wp_aload_n dX10_landing_79 rfl 0 rfl ?_
          refine wp_aload_n dX10_landing_80 rfl 1 rfl ?_
          refine wp_iload_n dX10_landing_81 rfl 2 rfl ?_
          refine wp_callP (e := driftP (B.2 6 t) (S.2.2 5)) (mm_siteV (av := [.ref p, .int (nI t)]) hC lX10_148 (rfl) (by decide) ⟨_, rfl, rfl⟩ rfl rfl (Nat.le_of_ble_eq_true rfl) dX10_landing_82) (c_X10_blows l k _ _ _ _ p t S B hR hp hM hw hP ht) (by omega) (by decide) ?_
          refine wp_iadd dX10_landing_85 ?_
          refine wp_istore [1, 2, 3, 4, 5, 6, 7, 0] (by decide) rfl rfl rfl dX10_landing_86 ?_
          refine wp_iload dX10_landing_88 7 rfl ?_
          refine wp_i2l dX10_landing_90 ?_
          refine wp_lconst (v := 0) dX10_landing_91 rfl ?_
          refine wp_topL (x' := (0 : Int32).toInt64) (by decide) ?_
          refine wp_ldc2 (v := 7) k_889 dX10_landing_92 ?_
          refine wp_topL (x' := (7 : Int32).toInt64) (by decide) ?_
          refine wp_callP (e := inP ((pl + (-((B.2 4 t) + 1))) + (driftP (B.2 6 t) (S.2.2 5))) 0 7) (mm_siteS (av := [.long (((pl + (-((B.2 4 t) + 1))) + (driftP (B.2 6 t) (S.2.2 5))).toInt64), .long ((0 : Int32).toInt64), .long ((7 : Int32).toInt64)]) hC lX10_78 rfl rfl (Nat.le_of_ble_eq_true rfl) dX10_landing_95) (c_X10_in l k _ _ _ _ ((pl + (-((B.2 4 t) + 1))) + (driftP (B.2 6 t) (S.2.2 5))) 0 7) (by omega) (by decide) ?_
          refine wp_if_eq 106 dX10_landing_98 (by decide) (fun c20 => ?_) (fun c20 => ?_)
          · simp only [in8, Int32.neg_neg, Int32.neg_zero] at c20
            refine wp_bipush (v := 8) dX10_landing_106 (by decide) ?_
            exact wp_iret hC rfl rfl dX10_landing_108 (pP_ok (by unfold landP astrayP; simp only [if_pos c1, if_neg c13, if_pos c14, if_pos c18, if_pos c20, Int32.neg_neg, Int32.neg_zero]))
          · simp only [in8, Int32.neg_neg, Int32.neg_zero] at c20
            refine wp_iload dX10_landing_101 7 rfl ?_
            refine wp_goto 108 dX10_landing_103 (by decide) ?_
            exact wp_iret hC rfl rfl dX10_landing_108 (pP_ok (by unfold landP astrayP; simp only [if_pos c1, if_neg c13, if_pos c14, if_pos c18, if_neg c20, Int32.neg_neg, Int32.neg_zero]))
    · refine wp_iconst (v := 0) dX10_landing_35 (by decide) ?_
      refine wp_goto 53 dX10_landing_36 (by decide) ?_
      refine wp_istore [1, 2, 3, 4, 5, 6, 0] (by decide) rfl rfl rfl dX10_landing_53 ?_
      refine wp_iload_n dX10_landing_55 rfl 3 rfl ?_
      refine wp_aload_n dX10_landing_56 rfl 0 rfl ?_
      refine wp_getO (q := 126) fX10_16 hR rfl (rfl) (by decide) (by decide) rfl dX10_landing_57 ?_
      refine wp_iconst (v := 3) dX10_landing_60 (by decide) ?_
      refine wp_iload_n dX10_landing_61 rfl 2 rfl ?_
      refine wp_imul dX10_landing_62 ?_
      refine wp_iconst (v := 2) dX10_landing_63 (by decide) ?_
      refine wp_iadd dX10_landing_64 ?_
      refine wp_iald ((3 * t) + 2) (ix_add (ix_mul rfl rfl) rfl) (rfl) (by decide) ((show (3 * t) + 2 < 12 from by omega)) dX10_landing_65 ?_
      refine wp_top (x' := B.2 6 t) (hM.2.2.2.2.1 t (by omega) 2 (by decide)) ?_
      refine wp_iconst (v := 2) dX10_landing_66 (by decide) ?_
      refine wp_icmp_ne 76 dX10_landing_67 (by decide) (fun c21 => ?_) (fun c21 => ?_)
      · refine wp_iload dX10_landing_76 6 rfl ?_
        refine wp_iadd dX10_landing_78 ?_
        refine wp_aload_n dX10_landing_79 rfl 0 rfl ?_
        refine wp_aload_n dX10_landing_80 rfl 1 rfl ?_
        refine wp_iload_n dX10_landing_81 rfl 2 rfl ?_
        refine wp_callP (e := driftP (B.2 6 t) (S.2.2 5)) (mm_siteV (av := [.ref p, .int (nI t)]) hC lX10_148 (rfl) (by decide) ⟨_, rfl, rfl⟩ rfl rfl (Nat.le_of_ble_eq_true rfl) dX10_landing_82) (c_X10_blows l k _ _ _ _ p t S B hR hp hM hw hP ht) (by omega) (by decide) ?_
        refine wp_iadd dX10_landing_85 ?_
        refine wp_istore [1, 2, 3, 4, 5, 6, 7, 0] (by decide) rfl rfl rfl dX10_landing_86 ?_
        refine wp_iload dX10_landing_88 7 rfl ?_
        refine wp_i2l dX10_landing_90 ?_
        refine wp_lconst (v := 0) dX10_landing_91 rfl ?_
        refine wp_topL (x' := (0 : Int32).toInt64) (by decide) ?_
        refine wp_ldc2 (v := 7) k_889 dX10_landing_92 ?_
        refine wp_topL (x' := (7 : Int32).toInt64) (by decide) ?_
        refine wp_callP (e := inP ((pl + 0) + (driftP (B.2 6 t) (S.2.2 5))) 0 7) (mm_siteS (av := [.long (((pl + 0) + (driftP (B.2 6 t) (S.2.2 5))).toInt64), .long ((0 : Int32).toInt64), .long ((7 : Int32).toInt64)]) hC lX10_78 rfl rfl (Nat.le_of_ble_eq_true rfl) dX10_landing_95) (c_X10_in l k _ _ _ _ ((pl + 0) + (driftP (B.2 6 t) (S.2.2 5))) 0 7) (by omega) (by decide) ?_
        refine wp_if_eq 106 dX10_landing_98 (by decide) (fun c22 => ?_) (fun c22 => ?_)
        · simp only [in8, Int32.neg_neg, Int32.neg_zero] at c22
          refine wp_bipush (v := 8) dX10_landing_106 (by decide) ?_
          exact wp_iret hC rfl rfl dX10_landing_108 (pP_ok (by unfold landP astrayP; simp only [if_pos c1, if_pos c13, if_neg c21, if_pos c22, Int32.neg_neg, Int32.neg_zero]))
        · simp only [in8, Int32.neg_neg, Int32.neg_zero] at c22
          refine wp_iload dX10_landing_101 7 rfl ?_
          refine wp_goto 108 dX10_landing_103 (by decide) ?_
          exact wp_iret hC rfl rfl dX10_landing_108 (pP_ok (by unfold landP astrayP; simp only [if_pos c1, if_pos c13, if_neg c21, if_neg c22, Int32.neg_neg, Int32.neg_zero]))
      · refine wp_iload dX10_landing_70 6 rfl ?_
        refine wp_ineg dX10_landing_72 ?_
        refine wp_goto 78 dX10_landing_73 (by decide) ?_
        refine wp_iadd dX10_landing_78 ?_
        refine wp_aload_n dX10_landing_79 rfl 0 rfl ?_
        refine wp_aload_n dX10_landing_80 rfl 1 rfl ?_
        refine wp_iload_n dX10_landing_81 rfl 2 rfl ?_
        refine wp_callP (e := driftP (B.2 6 t) (S.2.2 5)) (mm_siteV (av := [.ref p, .int (nI t)]) hC lX10_148 (rfl) (by decide) ⟨_, rfl, rfl⟩ rfl rfl (Nat.le_of_ble_eq_true rfl) dX10_landing_82) (c_X10_blows l k _ _ _ _ p t S B hR hp hM hw hP ht) (by omega) (by decide) ?_
        refine wp_iadd dX10_landing_85 ?_
        refine wp_istore [1, 2, 3, 4, 5, 6, 7, 0] (by decide) rfl rfl rfl dX10_landing_86 ?_
        refine wp_iload dX10_landing_88 7 rfl ?_
        refine wp_i2l dX10_landing_90 ?_
        refine wp_lconst (v := 0) dX10_landing_91 rfl ?_
        refine wp_topL (x' := (0 : Int32).toInt64) (by decide) ?_
        refine wp_ldc2 (v := 7) k_889 dX10_landing_92 ?_
        refine wp_topL (x' := (7 : Int32).toInt64) (by decide) ?_
        refine wp_callP (e := inP ((pl + (-0)) + (driftP (B.2 6 t) (S.2.2 5))) 0 7) (mm_siteS (av := [.long (((pl + (-0)) + (driftP (B.2 6 t) (S.2.2 5))).toInt64), .long ((0 : Int32).toInt64), .long ((7 : Int32).toInt64)]) hC lX10_78 rfl rfl (Nat.le_of_ble_eq_true rfl) dX10_landing_95) (c_X10_in l k _ _ _ _ ((pl + (-0)) + (driftP (B.2 6 t) (S.2.2 5))) 0 7) (by omega) (by decide) ?_
        refine wp_if_eq 106 dX10_landing_98 (by decide) (fun c23 => ?_) (fun c23 => ?_)
        · simp only [in8, Int32.neg_neg, Int32.neg_zero] at c23
          refine wp_bipush (v := 8) dX10_landing_106 (by decide) ?_
          exact wp_iret hC rfl rfl dX10_landing_108 (pP_ok (by unfold landP astrayP; simp only [if_pos c1, if_pos c13, if_pos c21, if_pos c23, Int32.neg_neg, Int32.neg_zero]))
        · simp only [in8, Int32.neg_neg, Int32.neg_zero] at c23
          refine wp_iload dX10_landing_101 7 rfl ?_
          refine wp_goto 108 dX10_landing_103 (by decide) ?_
          exact wp_iret hC rfl rfl dX10_landing_108 (pP_ok (by unfold landP astrayP; simp only [if_pos c1, if_pos c13, if_pos c21, if_neg c23, Int32.neg_neg, Int32.neg_zero]))

set_option maxRecDepth 100000 in
set_option maxHeartbeats 600000 in
theorem c_X10_huskAt (l : Launch) (k : Nat) (F A : mmF) (R : mmR) (G : mmG) (x : Int32) (B : BV) (hR : mm_RL R) (hM : isM F A 4 125 B) (hw : wfB B) : Meets l hX10_huskAt k 144 144 [.ref 123, .int x] F A R G (pP (hAt (B.2 1) x 0 B.1.1) F A R G) := by
  refine mm_start rfl (Nat.le_of_ble_eq_true rfl) (fun X hC => ?_)
  show WP hX10_huskAt X 144 0 [(0, .ref 123), (1, .int x)] [] F A R G
  have hw1 := hw.1
  refine wp_bipush (v := (-9)) dX10_huskAt_0 (by decide) ?_
  refine wp_istore_n [1, 2, 0] (by decide) rfl rfl rfl dX10_huskAt_2 rfl ?_
  refine wp_iconst (v := 0) dX10_huskAt_3 (by decide) ?_
  refine wp_istore_n [1, 2, 3, 0] (by decide) rfl rfl rfl dX10_huskAt_4 rfl ?_
  have lp : ∀ (nn : Nat) (i : Nat) (q : Int32), (i ≤ B.1.1) → (∀ j, j < i → B.2 1 j = x → q = nI j) → ((∀ j, j < i → B.2 1 j ≠ x) → q = -9) → B.1.1 - i < nn → WP hX10_huskAt X 144 5 [(0, .ref 123), (1, .int x), (2, .int q), (3, .int (nI i))] [] F A R G := by
    intro nn
    induction nn with
    | zero => intro i q _ _ _ hm; exact absurd hm (Nat.not_lt_zero _)
    | succ nn ih_lp =>
      intro i q hi hv1 hv2 hm_lp
      refine wp_iload_n dX10_huskAt_5 rfl 3 rfl ?_
      refine wp_aload_n dX10_huskAt_6 rfl 0 rfl ?_
      refine wp_getI fX10_75 rfl (rfl) (by decide) dX10_huskAt_7 ?_
      refine wp_top (x' := nI B.1.1) (hM.1) ?_
      refine wp_icmp_ge 37 dX10_huskAt_10 (by decide) (fun c1 => ?_) (fun c1 => ?_)
      · replace c1 := (ix_le (a := B.1.1) (b := i) (rfl) (rfl) (by omega) (by omega)).mp c1
        refine wp_iload_n dX10_huskAt_37 rfl 2 rfl ?_
        exact wp_iret hC rfl rfl dX10_huskAt_38 (pP_ok (by
      rcases hAt_or (B.2 1) x B.1.1 0 with h | ⟨j, -, hj, h, e⟩
      · rw [h]; exact hv2 (fun j hj => hAt_no _ _ h (by omega) j (Nat.zero_le _) (by omega))
      · rw [h]; exact hv1 j (by omega) e))
      · replace c1 := mt (ix_le (a := B.1.1) (b := i) (rfl) (rfl) (by omega) (by omega)).mpr c1
        refine wp_aload_n dX10_huskAt_13 rfl 0 rfl ?_
        refine wp_getO (q := 125) fX10_13 hR rfl (rfl) (by decide) (by decide) rfl dX10_huskAt_14 ?_
        refine wp_iconst (v := 3) dX10_huskAt_17 (by decide) ?_
        refine wp_iload_n dX10_huskAt_18 rfl 3 rfl ?_
        refine wp_imul dX10_huskAt_19 ?_
        refine wp_iald (3 * i) (ix_mul rfl rfl) (rfl) (by decide) ((show 3 * i < 15 from by omega)) dX10_huskAt_20 ?_
        refine wp_top (x' := B.2 1 i) (hM.2.2.2.1 i (by omega) 0 (by decide)) ?_
        refine wp_iload_n dX10_huskAt_21 rfl 1 rfl ?_
        refine wp_icmp_ne 29 dX10_huskAt_22 (by decide) (fun c2 => ?_) (fun c2 => ?_)
        · refine wp_iload_n dX10_huskAt_29 rfl 2 rfl ?_
          refine wp_istore_n [1, 2, 0, 4] (by decide) rfl rfl rfl dX10_huskAt_30 rfl ?_
          refine wp_iinc (v := nI (i + 1)) 3 rfl (by exact nI_1 i) [1, 2, 3, 0] (by decide) rfl rfl rfl dX10_huskAt_31 ?_
          refine wp_goto 5 dX10_huskAt_34 (by decide) ?_
          exact ih_lp (i + 1) q (by omega) (fun j hj e => by by_cases e2 : j = i; (rw [e2] at e; exact absurd e c2); exact hv1 j (by omega) e) (fun h => hv2 (fun j hj => h j (by omega))) (by omega)
        · refine wp_iload_n dX10_huskAt_25 rfl 3 rfl ?_
          refine wp_goto 30 dX10_huskAt_26 (by decide) ?_
          refine wp_istore_n [1, 2, 0, 4] (by decide) rfl rfl rfl dX10_huskAt_30 rfl ?_
          refine wp_iinc (v := nI (i + 1)) 3 rfl (by exact nI_1 i) [1, 2, 3, 0] (by decide) rfl rfl rfl dX10_huskAt_31 ?_
          refine wp_goto 5 dX10_huskAt_34 (by decide) ?_
          exact ih_lp (i + 1) (nI i) (by omega) (fun j hj e => by rw [hw.2.2.2.2 j i (by omega) (by omega) (e.trans c2.symm)]) (fun h => absurd c2 (h i (by omega))) (by omega)
  exact lp (B.1.1 + 1) 0 (-9) (Nat.zero_le _) (fun j hj => absurd hj (Nat.not_lt_zero _)) (fun _ => rfl) (by omega)

set_option maxRecDepth 100000 in
set_option maxHeartbeats 600000 in
theorem c_X10_stand (l : Launch) (k : Nat) (F A : mmF) (R : mmR) (G : mmG) (p h : Nat) (S : SV) (hp : pg p) (hP : isP A p S) (hd : dn S) (hh : h < 5) (hu : ¬ bt (S.2.2 2) (nI h) = 0) : Meets l hX10_stand k 144 144 [.ref p, .int (nI h)] F A R G (pV (fun F1 A1 R1 G1 => F1 = F ∧ isP A1 p (setS S h) ∧ (∀ r, r ≠ p → A1 r = A r) ∧ R = R1 ∧ G = G1)) := by
  refine mm_start rfl (Nat.le_of_ble_eq_true rfl) (fun X hC => ?_)
  show WP hX10_stand X 144 0 [(0, .ref p), (1, .int (nI h))] [] F A R G
  refine wp_aload_n dX10_stand_0 rfl 0 rfl ?_
  refine wp_bipush (v := 12) dX10_stand_1 (by decide) ?_
  refine wp_dup2 dX10_stand_3 rfl rfl ?_
  refine wp_iald 12 (rfl) (pg_k hp) (pg_l hp) (pg_i hp (by omega)) dX10_stand_4 ?_
  refine wp_top (x' := S.2.2 2) (hP 12 (by decide)) ?_
  refine wp_iconst (v := 1) dX10_stand_5 (by decide) ?_
  refine wp_iload_n dX10_stand_6 rfl 1 rfl ?_
  refine wp_ishl dX10_stand_7 ?_
  refine wp_iconst (v := (-1)) dX10_stand_8 (by decide) ?_
  refine wp_ixor dX10_stand_9 ?_
  refine wp_iand dX10_stand_10 ?_
  refine wp_iast 12 (rfl) (pg_k hp) (pg_l hp) (pg_i hp (by omega)) dX10_stand_11 ?_
  refine wp_aload_n dX10_stand_12 rfl 0 rfl ?_
  refine wp_iconst (v := 0) dX10_stand_13 (by decide) ?_
  refine wp_iload_n dX10_stand_14 rfl 1 rfl ?_
  refine wp_iadd dX10_stand_15 ?_
  refine wp_iconst (v := 0) dX10_stand_16 (by decide) ?_
  refine wp_iast (0 + h) (ix_add rfl rfl) (pg_k hp) (pg_l hp) (pg_i hp (by omega)) dX10_stand_17 ?_
  exact wp_vret hC rfl dX10_stand_18 (pV_ok (by
    obtain ⟨n, hn, e⟩ := hd
    refine ⟨rfl, ?_, fun r hr => by simp [u2, va_up, hr], rfl, rfl⟩
    rw [show setS S h = (va_up S.1 h 0, S.2.1, va_up S.2.2 2 (S.2.2 2 &&& (((1 : Int32) <<< (nI h &&& 31)) ^^^ (-1)))) from by
      unfold setS; rw [if_neg hu, e, set_dn n hn h hh (by rw [← e]; exact hu)]]
    exact isP_lo (isP_12 hP) hh))

set_option maxRecDepth 100000 in
set_option maxHeartbeats 600000 in
theorem c_X10_copyRow (l : Launch) (k : Nat) (F A : mmF) (R : mmR) (G : mmG) (a b n : Nat) (hak : mm_K a = 11) (hal : a < 144) (han : n ≤ mm_len a) (hbk : mm_K b = 11) (hbl : b < 144) (hbn : n ≤ mm_len b) (hab : a ≠ b) (hn : n < 1000) : Meets l hX10_copyRow k 144 144 [.ref a, .ref b, .int (nI n)] F A R G (pV (fun F1 A1 R1 G1 => F1 = F ∧ (∀ k, k < n → A1 b k = A a k) ∧ (∀ r, r ≠ b → A1 r = A r) ∧ R = R1 ∧ G = G1)) := by
  refine mm_start rfl (Nat.le_of_ble_eq_true rfl) (fun X hC => ?_)
  show WP hX10_copyRow X 144 0 [(0, .ref a), (1, .ref b), (2, .int (nI n))] [] F A R G
  refine wp_iconst (v := 0) dX10_copyRow_0 (by decide) ?_
  refine wp_istore_n [1, 2, 3, 0] (by decide) rfl rfl rfl dX10_copyRow_1 rfl ?_
  have lp : ∀ (nn : Nat) (i : Nat) (A1 : mmF), (i ≤ n) → (∀ k, k < i → A1 b k = A a k) → (∀ r, r ≠ b → A1 r = A r) → n - i < nn → WP hX10_copyRow X 144 2 [(0, .ref a), (1, .ref b), (2, .int (nI n)), (3, .int (nI i))] [] F A1 R G := by
    intro nn
    induction nn with
    | zero => intro i A1 _ _ _ hm; exact absurd hm (Nat.not_lt_zero _)
    | succ nn ih_lp =>
      intro i A1 hi hv hr hm_lp
      refine wp_iload_n dX10_copyRow_2 rfl 3 rfl ?_
      refine wp_iload_n dX10_copyRow_3 rfl 2 rfl ?_
      refine wp_icmp_ge 19 dX10_copyRow_4 (by decide) (fun c1 => ?_) (fun c1 => ?_)
      · replace c1 := (ix_le (a := n) (b := i) (rfl) (rfl) (by omega) (by omega)).mp c1
        exact wp_vret hC rfl dX10_copyRow_19 (pV_ok ⟨rfl, fun k hk => hv k (by omega), hr, rfl, rfl⟩)
      · replace c1 := mt (ix_le (a := n) (b := i) (rfl) (rfl) (by omega) (by omega)).mpr c1
        refine wp_aload_n dX10_copyRow_7 rfl 1 rfl ?_
        refine wp_iload_n dX10_copyRow_8 rfl 3 rfl ?_
        refine wp_aload_n dX10_copyRow_9 rfl 0 rfl ?_
        refine wp_iload_n dX10_copyRow_10 rfl 3 rfl ?_
        refine wp_iald i (rfl) (hak) (hal) ((Nat.lt_of_lt_of_le (by omega) han)) dX10_copyRow_11 ?_
        refine wp_iast i (rfl) (hbk) (hbl) ((Nat.lt_of_lt_of_le (by omega) hbn)) dX10_copyRow_12 ?_
        refine wp_iinc (v := nI (i + 1)) 3 rfl (by exact nI_1 i) [1, 2, 3, 0] (by decide) rfl rfl rfl dX10_copyRow_13 ?_
        refine wp_goto 2 dX10_copyRow_16 (by decide) ?_
        exact ih_lp (i + 1) _ (by omega) (fun k hk => by rw [u2_row]; by_cases e : k = i; (rw [e, va_up_self, hr a hab]); (rw [va_up_ne _ _ e]; exact hv k (by omega))) (fun r h => by rw [u2_ne h]; exact hr r h) (by omega)
  exact lp (n + 1) 0 A (Nat.zero_le _) (fun _ h => absurd h (Nat.not_lt_zero _)) (fun _ _ => rfl) (by omega)

set_option maxRecDepth 100000 in
set_option maxHeartbeats 600000 in
theorem c_X10_placeAt (l : Launch) (k : Nat) (F A : mmF) (R : mmR) (G : mmG) (p t h : Nat) (S : SV) (B : BV) (hR : mm_RL R) (hp : pg p) (hM : isM F A 4 125 B) (hw : wfB B) (hP : isP A p S) (hh : h < B.1.1) (ht : t < B.1.2.1) : Meets l hX10_placeAt (k + 1) 144 144 [.ref 123, .ref p, .int (nI t), .int (nI h)] F A R G (pP (if canB B S t h = 0 then -9 else B.2 1 h - driftP (B.2 6 t) (S.2.2 5)) F A R G) := by
  refine mm_start rfl (Nat.le_of_ble_eq_true rfl) (fun X hC => ?_)
  show WP hX10_placeAt X 144 0 [(0, .ref 123), (1, .ref p), (2, .int (nI t)), (3, .int (nI h))] [] F A R G
  have hw1 := hw.1
  refine wp_aload_n dX10_placeAt_0 rfl 0 rfl ?_
  refine wp_getO (q := 125) fX10_13 hR rfl (rfl) (by decide) (by decide) rfl dX10_placeAt_1 ?_
  refine wp_iconst (v := 3) dX10_placeAt_4 (by decide) ?_
  refine wp_iload_n dX10_placeAt_5 rfl 3 rfl ?_
  refine wp_imul dX10_placeAt_6 ?_
  refine wp_iald (3 * h) (ix_mul rfl rfl) (rfl) (by decide) ((show 3 * h < 15 from by omega)) dX10_placeAt_7 ?_
  refine wp_top (x' := B.2 1 h) (hM.2.2.2.1 h (by omega) 0 (by decide)) ?_
  refine wp_aload_n dX10_placeAt_8 rfl 0 rfl ?_
  refine wp_aload_n dX10_placeAt_9 rfl 1 rfl ?_
  refine wp_iload_n dX10_placeAt_10 rfl 2 rfl ?_
  refine wp_callP (e := driftP (B.2 6 t) (S.2.2 5)) (mm_siteV (av := [.ref p, .int (nI t)]) hC lX10_148 (rfl) (by decide) ⟨_, rfl, rfl⟩ rfl rfl (Nat.le_of_ble_eq_true rfl) dX10_placeAt_11) (c_X10_blows l k _ _ _ _ p t S B hR hp hM hw hP ht) (by omega) (by decide) ?_
  refine wp_isub dX10_placeAt_14 ?_
  refine wp_istore [1, 2, 3, 4, 0] (by decide) rfl rfl rfl dX10_placeAt_15 ?_
  refine wp_aload_n dX10_placeAt_17 rfl 1 rfl ?_
  refine wp_bipush (v := 12) dX10_placeAt_18 (by decide) ?_
  refine wp_iald 12 (rfl) (pg_k hp) (pg_l hp) (pg_i hp (by omega)) dX10_placeAt_20 ?_
  refine wp_top (x' := S.2.2 2) (hP 12 (by decide)) ?_
  refine wp_iload_n dX10_placeAt_21 rfl 3 rfl ?_
  refine wp_callP (e := bt (S.2.2 2) (nI h)) (mm_siteS (av := [.int (S.2.2 2), .int (nI h)]) hC lX10_144 rfl rfl (Nat.le_of_ble_eq_true rfl) dX10_placeAt_22) (c_X10_has l k _ _ _ _ (S.2.2 2) (nI h)) (by omega) (by decide) ?_
  refine wp_if_ne 46 dX10_placeAt_25 (by decide) (fun c1 => ?_) (fun c1 => ?_)
  · refine wp_bipush (v := (-9)) dX10_placeAt_46 (by decide) ?_
    exact wp_iret hC rfl rfl dX10_placeAt_48 (pP_ok (by unfold canB reachP; first | (simp only [if_neg c1]; done) | (simp only [if_neg c1]; rfl)))
  · refine wp_iload dX10_placeAt_28 4 rfl ?_
    refine wp_i2l dX10_placeAt_30 ?_
    refine wp_lconst (v := 0) dX10_placeAt_31 rfl ?_
    refine wp_topL (x' := (0 : Int32).toInt64) (by decide) ?_
    refine wp_ldc2 (v := 7) k_889 dX10_placeAt_32 ?_
    refine wp_topL (x' := (7 : Int32).toInt64) (by decide) ?_
    refine wp_callP (e := inP ((B.2 1 h) - (driftP (B.2 6 t) (S.2.2 5))) 0 7) (mm_siteS (av := [.long (((B.2 1 h) - (driftP (B.2 6 t) (S.2.2 5))).toInt64), .long ((0 : Int32).toInt64), .long ((7 : Int32).toInt64)]) hC lX10_78 rfl rfl (Nat.le_of_ble_eq_true rfl) dX10_placeAt_35) (c_X10_in l k _ _ _ _ ((B.2 1 h) - (driftP (B.2 6 t) (S.2.2 5))) 0 7) (by omega) (by decide) ?_
    refine wp_if_eq 46 dX10_placeAt_38 (by decide) (fun c2 => ?_) (fun c2 => ?_)
    · rw [in8] at c2
      refine wp_bipush (v := (-9)) dX10_placeAt_46 (by decide) ?_
      exact wp_iret hC rfl rfl dX10_placeAt_48 (pP_ok (by unfold canB reachP; first | (simp only [if_pos c1, if_pos c2]; done) | (simp only [if_pos c1, if_pos c2]; rfl)))
    · rw [in8] at c2
      refine wp_iload dX10_placeAt_41 4 rfl ?_
      refine wp_goto 48 dX10_placeAt_43 (by decide) ?_
      exact wp_iret hC rfl rfl dX10_placeAt_48 (pP_ok (by unfold canB reachP; first | (simp only [if_pos c1, if_neg c2]; done) | (simp only [if_pos c1, if_neg c2]; rfl)))

set_option maxRecDepth 100000 in
set_option maxHeartbeats 600000 in
theorem c_X10_paidMore (l : Launch) (k : Nat) (F A : mmF) (R : mmR) (G : mmG) (x : Int32) : Meets l hX10_paidMore k 144 144 [.int x] F A R G (pP (if (9 : Int32) < x + 3 then 9 else x + 3) F A R G) := by
  refine mm_start rfl (Nat.le_of_ble_eq_true rfl) (fun X hC => ?_)
  show WP hX10_paidMore X 144 0 [(0, .int x)] [] F A R G
  refine wp_iload_n dX10_paidMore_0 rfl 0 rfl ?_
  refine wp_iconst (v := 3) dX10_paidMore_1 (by decide) ?_
  refine wp_iadd dX10_paidMore_2 ?_
  refine wp_bipush (v := 9) dX10_paidMore_3 (by decide) ?_
  refine wp_icmp_le 13 dX10_paidMore_5 (by decide) (fun c1 => ?_) (fun c1 => ?_)
  · refine wp_iload_n dX10_paidMore_13 rfl 0 rfl ?_
    refine wp_iconst (v := 3) dX10_paidMore_14 (by decide) ?_
    refine wp_iadd dX10_paidMore_15 ?_
    exact wp_iret hC rfl rfl dX10_paidMore_16 (pP_ok (by rw [if_neg (Int32.not_lt.mpr c1)]))
  · refine wp_bipush (v := 9) dX10_paidMore_8 (by decide) ?_
    refine wp_goto 16 dX10_paidMore_10 (by decide) ?_
    exact wp_iret hC rfl rfl dX10_paidMore_16 (pP_ok (by rw [if_pos (Int32.not_le.mp c1)]))

set_option maxRecDepth 100000 in
set_option maxHeartbeats 600000 in
theorem c_X10_power (l : Launch) (k : Nat) (F A : mmF) (R : mmR) (G : mmG) (a n : Nat) (hn : n < 100) : Meets l hX10_power k 144 144 [.int (nI a), .int (nI n)] F A R G (pP (nI (a ^ n)) F A R G) := by
  refine mm_start rfl (Nat.le_of_ble_eq_true rfl) (fun X hC => ?_)
  show WP hX10_power X 144 0 [(0, .int (nI a)), (1, .int (nI n))] [] F A R G
  refine wp_iconst (v := 1) dX10_power_0 (by decide) ?_
  refine wp_istore_n [1, 2, 0] (by decide) rfl rfl rfl dX10_power_1 rfl ?_
  refine wp_iconst (v := 0) dX10_power_2 (by decide) ?_
  refine wp_istore_n [1, 2, 3, 0] (by decide) rfl rfl rfl dX10_power_3 rfl ?_
  have lp : ∀ (nn : Nat) (i : Nat), (i ≤ n) → n - i < nn → WP hX10_power X 144 4 [(0, .int (nI a)), (1, .int (nI n)), (2, .int (nI (a ^ i))), (3, .int (nI i))] [] F A R G := by
    intro nn
    induction nn with
    | zero => intro i _ hm; exact absurd hm (Nat.not_lt_zero _)
    | succ nn ih_lp =>
      intro i hi hm_lp
      refine wp_iload_n dX10_power_4 rfl 3 rfl ?_
      refine wp_iload_n dX10_power_5 rfl 1 rfl ?_
      refine wp_icmp_ge 19 dX10_power_6 (by decide) (fun c1 => ?_) (fun c1 => ?_)
      · replace c1 := (ix_le (a := n) (b := i) (rfl) (rfl) (by omega) (by omega)).mp c1
        refine wp_iload_n dX10_power_19 rfl 2 rfl ?_
        exact wp_iret hC rfl rfl dX10_power_20 (pP_ok (by rw [show i = n by omega]))
      · replace c1 := mt (ix_le (a := n) (b := i) (rfl) (rfl) (by omega) (by omega)).mpr c1
        refine wp_iload_n dX10_power_9 rfl 2 rfl ?_
        refine wp_iload_n dX10_power_10 rfl 0 rfl ?_
        refine wp_imul dX10_power_11 ?_
        refine wp_top (x' := nI (a ^ (i + 1))) ((ix_mul rfl rfl).trans (by rw [Nat.pow_succ])) ?_
        refine wp_istore_n [1, 2, 0, 4] (by decide) rfl rfl rfl dX10_power_12 rfl ?_
        refine wp_iinc (v := nI (i + 1)) 3 rfl (by exact nI_1 i) [1, 2, 3, 0] (by decide) rfl rfl rfl dX10_power_13 ?_
        refine wp_goto 4 dX10_power_16 (by decide) ?_
        exact ih_lp (i + 1) (by omega) (by omega)
  exact lp (n + 1) 0 (Nat.zero_le _) (by omega)

theorem or_step {i : Nat} (h1 : 2 ≤ i) (h2 : i ≤ 4) : mm_or (i - 1) * nI i = mm_or (i + 1 - 1) := by
  rcases (show i = 2 ∨ i = 3 ∨ i = 4 by omega) with rfl | rfl | rfl <;> decide
theorem or_end {i n : Nat} (h1 : n < i) (h2 : 2 ≤ i ∧ (i ≤ n + 1 ∨ i = 2)) : mm_or (i - 1) = mm_or n := by
  rcases (show i - 1 = n ∨ (i = 2 ∧ n = 0) by omega) with h | ⟨rfl, rfl⟩
  · rw [h]
  · decide
set_option maxRecDepth 100000 in
set_option maxHeartbeats 600000 in
theorem c_X10_ways (l : Launch) (k : Nat) (F A : mmF) (R : mmR) (G : mmG) (n : Nat) (hn : n < 5) : Meets l hX10_ways k 144 144 [.int (nI n)] F A R G (pP (mm_or n) F A R G) := by
  refine mm_start rfl (Nat.le_of_ble_eq_true rfl) (fun X hC => ?_)
  show WP hX10_ways X 144 0 [(0, .int (nI n))] [] F A R G
  refine wp_iconst (v := 1) dX10_ways_0 (by decide) ?_
  refine wp_istore_n [1, 0] (by decide) rfl rfl rfl dX10_ways_1 rfl ?_
  refine wp_iconst (v := 2) dX10_ways_2 (by decide) ?_
  refine wp_istore_n [1, 2, 0] (by decide) rfl rfl rfl dX10_ways_3 rfl ?_
  have lp : ∀ (nn : Nat) (i : Nat), (2 ≤ i ∧ (i ≤ n + 1 ∨ i = 2)) → 6 - i < nn → WP hX10_ways X 144 4 [(0, .int (nI n)), (1, .int (mm_or (i - 1))), (2, .int (nI i))] [] F A R G := by
    intro nn
    induction nn with
    | zero => intro i _ hm; exact absurd hm (Nat.not_lt_zero _)
    | succ nn ih_lp =>
      intro i hi hm_lp
      refine wp_iload_n dX10_ways_4 rfl 2 rfl ?_
      refine wp_iload_n dX10_ways_5 rfl 0 rfl ?_
      refine wp_icmp_gt 19 dX10_ways_6 (by decide) (fun c1 => ?_) (fun c1 => ?_)
      · replace c1 := (ix_lt (a := n) (b := i) (rfl) (rfl) (by omega) (by omega)).mp c1
        refine wp_iload_n dX10_ways_19 rfl 1 rfl ?_
        exact wp_iret hC rfl rfl dX10_ways_20 (pP_ok (or_end (by omega) hi))
      · replace c1 := mt (ix_lt (a := n) (b := i) (rfl) (rfl) (by omega) (by omega)).mpr c1
        refine wp_iload_n dX10_ways_9 rfl 1 rfl ?_
        refine wp_iload_n dX10_ways_10 rfl 2 rfl ?_
        refine wp_imul dX10_ways_11 ?_
        refine wp_top (x' := mm_or (i + 1 - 1)) (or_step (by omega) (by omega)) ?_
        refine wp_istore_n [1, 0, 3] (by decide) rfl rfl rfl dX10_ways_12 rfl ?_
        refine wp_iinc (v := nI (i + 1)) 2 rfl (by exact nI_1 i) [1, 2, 0] (by decide) rfl rfl rfl dX10_ways_13 ?_
        refine wp_goto 4 dX10_ways_16 (by decide) ?_
        exact ih_lp (i + 1) (by omega) (by omega)
  exact lp (4 + 1) 2 (by omega) (by omega)

set_option maxRecDepth 100000 in
set_option maxHeartbeats 600000 in
theorem c_X10_divisor (l : Launch) (k : Nat) (F A : mmF) (R : mmR) (G : mmG) (a b : Nat) (ha : a < 2 ^ 31) (hb : b < 2 ^ 31) : Meets l hX10_divisor k 144 144 [.int (nI a), .int (nI b)] F A R G (pP (nI (Nat.gcd a b)) F A R G) := by
  refine mm_start rfl (Nat.le_of_ble_eq_true rfl) (fun X hC => ?_)
  show WP hX10_divisor X 144 0 [(0, .int (nI a)), (1, .int (nI b))] [] F A R G
  refine wp_iload_n dX10_divisor_0 rfl 0 rfl ?_
  refine wp_if_ge 9 dX10_divisor_1 (by decide) (fun c1 => ?_) (fun c1 => ?_)
  · replace c1 := (ix_le (a := 0) (b := a) (rfl) (rfl) (by omega) (by omega)).mp c1
    refine wp_iload_n dX10_divisor_9 rfl 0 rfl ?_
    refine wp_istore_n [1, 2, 0] (by decide) rfl rfl rfl dX10_divisor_10 rfl ?_
    refine wp_iload_n dX10_divisor_11 rfl 1 rfl ?_
    refine wp_istore_n [1, 2, 3, 0] (by decide) rfl rfl rfl dX10_divisor_12 rfl ?_
    have lp : ∀ (nn : Nat) (x y : Nat), (x < 2 ^ 31 ∧ y < 2 ^ 31) → (Nat.gcd x y = Nat.gcd a b) → y < nn → WP hX10_divisor X 144 13 [(0, .int (nI a)), (1, .int (nI b)), (2, .int (nI x)), (3, .int (nI y))] [] F A R G := by
      intro nn
      induction nn with
      | zero => intro x y _ _ hm; exact absurd hm (Nat.not_lt_zero _)
      | succ nn ih_lp =>
        intro x y hx hv hm_lp
        refine wp_iload_n dX10_divisor_13 rfl 3 rfl ?_
        refine wp_if_eq 30 dX10_divisor_14 (by decide) (fun c2 => ?_) (fun c2 => ?_)
        · replace c2 := (ix_eq (a := y) (b := 0) (rfl) (rfl) (by omega) (by omega)).mp c2
          refine wp_iload_n dX10_divisor_30 rfl 2 rfl ?_
          exact wp_iret hC rfl rfl dX10_divisor_31 (pP_ok (by rw [← hv, show y = 0 by omega, Nat.gcd_zero_right]))
        · replace c2 := mt (ix_eq (a := y) (b := 0) (rfl) (rfl) (by omega) (by omega)).mpr c2
          refine wp_iload_n dX10_divisor_17 rfl 2 rfl ?_
          refine wp_iload_n dX10_divisor_18 rfl 3 rfl ?_
          refine wp_irem dX10_divisor_19 (nI_ne0 (by omega) hx.2) ?_
          refine wp_top (x' := nI (x % y)) (ix_rem (a := x) (b := y) rfl rfl hx.1 (by omega) hx.2) ?_
          have hlt : x % y < y := Nat.mod_lt _ (by omega)
          refine wp_istore [1, 2, 3, 4, 0] (by decide) rfl rfl rfl dX10_divisor_20 ?_
          refine wp_iload_n dX10_divisor_22 rfl 3 rfl ?_
          refine wp_istore_n [1, 2, 0, 4, 5] (by decide) rfl rfl rfl dX10_divisor_23 rfl ?_
          refine wp_iload dX10_divisor_24 4 rfl ?_
          refine wp_istore_n [1, 2, 3, 0, 5] (by decide) rfl rfl rfl dX10_divisor_26 rfl ?_
          refine wp_goto 13 dX10_divisor_27 (by decide) ?_
          refine wp_lv [0, 1, 2, 3] rfl ?_
          exact ih_lp y (x % y) ⟨hx.2, Nat.lt_trans hlt hx.2⟩ (gcd_step.symm.trans hv) (by omega)
    exact lp (b + 1) a b ⟨ha, hb⟩ rfl (by omega)
  · replace c1 := mt (ix_le (a := 0) (b := a) (rfl) (rfl) (by omega) (by omega)).mpr c1
    exact absurd c1 (by omega)

set_option maxRecDepth 100000 in
set_option maxHeartbeats 600000 in
theorem c_X10_fraction (l : Launch) (k : Nat) (F A : mmF) (R : mmR) (G : mmG) (a b : Nat) (u : Int32) (ha : a < 2 ^ 31) (hb : b < 2 ^ 31) (hb0 : 0 < b) : Meets l hX10_fraction (k + 1) 144 144 [.int (nI a), .int (nI b), .int u] F A R G (pP (frcP (nI a) (nI b) u) F A R G) := by
  refine mm_start rfl (Nat.le_of_ble_eq_true rfl) (fun X hC => ?_)
  show WP hX10_fraction X 144 0 [(0, .int (nI a)), (1, .int (nI b)), (2, .int u)] [] F A R G
  have hg0 : 0 < Nat.gcd a b := Nat.gcd_pos_of_pos_right _ hb0
  have hgl : Nat.gcd a b < 2 ^ 31 := Nat.lt_of_le_of_lt (Nat.gcd_le_right _ hb0) hb
  refine wp_iload_n dX10_fraction_0 rfl 0 rfl ?_
  refine wp_iload_n dX10_fraction_1 rfl 1 rfl ?_
  refine wp_callP (e := nI (Nat.gcd a b)) (mm_siteS (av := [.int (nI a), .int (nI b)]) hC lX10_242 rfl rfl (Nat.le_of_ble_eq_true rfl) dX10_fraction_2) (c_X10_divisor l k _ _ _ _ a b ha hb) (by omega) (by decide) ?_
  refine wp_istore_n [1, 2, 3, 0] (by decide) rfl rfl rfl dX10_fraction_5 rfl ?_
  refine wp_iload_n dX10_fraction_6 rfl 2 rfl ?_
  refine wp_if_eq 16 dX10_fraction_7 (by decide) (fun c1 => ?_) (fun c1 => ?_)
  · refine wp_iload_n dX10_fraction_16 rfl 1 rfl ?_
    refine wp_iload_n dX10_fraction_17 rfl 3 rfl ?_
    refine wp_idiv dX10_fraction_18 (nI_ne0 hg0 hgl) ?_
    exact wp_iret hC rfl rfl dX10_fraction_19 (pP_ok (by rw [frc_nI ha hb, if_pos c1, pk_div (by omega) hg0 hgl]))
  · refine wp_iload_n dX10_fraction_10 rfl 0 rfl ?_
    refine wp_iload_n dX10_fraction_11 rfl 3 rfl ?_
    refine wp_idiv dX10_fraction_12 (nI_ne0 hg0 hgl) ?_
    refine wp_goto 19 dX10_fraction_13 (by decide) ?_
    exact wp_iret hC rfl rfl dX10_fraction_19 (pP_ok (by rw [frc_nI ha hb, if_neg c1, pk_div (by omega) hg0 hgl]))

