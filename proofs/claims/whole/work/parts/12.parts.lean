theorem wp_iushr {Y : mmY} {X : mmX} {N pc : Nat} {lv : List (Nat × Value)} {st : List Value} {F A : mmF} {R : mmR} {G : mmG} {x y : Int32} (hd : decode Y.2.1 pc = .ok (.iushr, 1)) (kk : WP Y X N (pc + 1) lv (.int (x.toUInt32 >>> (y.toUInt32 &&& Int32.toUInt32 31)).toInt32 :: st) F A R G) : WP Y X N pc lv (.int y :: .int x :: st) F A R G := by
  obtain ⟨⟨p, l, e, Rm, s⟩, ⟨m, args, below, meth, c⟩, ⟨D, cy, b, xx⟩, k, N0, N1, Q⟩ := X
  intro ok hN0 H locs ls hl hP hS
  exact lv_iushr ok.1 ok.2.1 hd rfl (kk ok hN0 H locs ls hl hP hS)
theorem wp_ldcw {Y : mmY} {X : mmX} {N pc : Nat} {lv : List (Nat × Value)} {st : List Value} {F A : mmF} {R : mmR} {G : mmG} {i : Nat} {v : Int32} (hw : Cond.constant Y.1.cls i v ∈ mm_big) (hd : decode Y.2.1 pc = .ok (.ldc_w i, 3)) (kk : WP Y X N (pc + 3) lv (.int v :: st) F A R G) : WP Y X N pc lv st F A R G := by
  obtain ⟨⟨p, l, e, Rm, s⟩, ⟨m, args, below, meth, c⟩, ⟨D, cy, b, xx⟩, k, N0, N1, Q⟩ := X
  intro ok hN0 H locs ls hl hP hS
  obtain ⟨o1, o2, o3, o4, o5, o6, o7, o8⟩ := id ok
  exact lv_ldcw o1 o2 o6 (o7 _ hw) hd (kk ok hN0 H locs ls hl hP hS)
/-- how many bits, of 0 .. 4 -/
def bc (n : Nat) : Nat := n % 2 + n / 2 % 2 + n / 4 % 2 + n / 8 % 2 + n / 16 % 2
def manyP (x : Int32) : Int32 := nI (bc x.toNatClampNeg)
theorem manyP_nI {n : Nat} (h : n < 32) : manyP (nI n) = nI (bc n) := by unfold manyP; rw [nI_clamp (by omega)]
theorem ac_K {j : Nat} (h : j < 14) : mm_K (8 + 3 * j) = 7 := by
  have : ∀ j, j < 14 → mm_K (8 + 3 * j) = 7 := by decide +kernel
  exact this j h
theorem sl_K {j : Nat} (h : j < 2) : mm_K (56 + 3 * j) = 7 := by
  have : ∀ j, j < 2 → mm_K (56 + 3 * j) = 7 := by decide +kernel
  exact this j h
theorem sk_K {j : Nat} (h : j < 5) : mm_K (65 + 3 * j) = 7 := by
  have : ∀ j, j < 5 → mm_K (65 + 3 * j) = 7 := by decide +kernel
  exact this j h
theorem ch_K {j : Nat} (h : j < 5) : mm_K (88 + 3 * j) = 7 := by
  have : ∀ j, j < 5 → mm_K (88 + 3 * j) = 7 := by decide +kernel
  exact this j h
set_option maxRecDepth 100000 in
set_option maxHeartbeats 600000 in
theorem c_J6_bitCount (l : Launch) (k : Nat) (F A : mmF) (R : mmR) (G : mmG) (n : Nat) (hn : n < 32) : Meets l hJ6_bitCount_0f7a4 k 144 144 [.int (nI n)] F A R G (pP (nI (bc n)) F A R G) := by
  refine mm_start rfl (Nat.le_of_ble_eq_true rfl) (fun X hC => ?_)
  show WP hJ6_bitCount_0f7a4 X 144 0 [(0, .int (nI n))] [] F A R G
  refine wp_iload_n dJ6_bitCount_0f7a4_0 rfl 0 rfl ?_
  refine wp_iload_n dJ6_bitCount_0f7a4_1 rfl 0 rfl ?_
  refine wp_iconst (v := 1) dJ6_bitCount_0f7a4_2 (by decide) ?_
  refine wp_iushr dJ6_bitCount_0f7a4_3 ?_
  refine wp_ldcw (v := 1431655765) k_564 dJ6_bitCount_0f7a4_4 ?_
  refine wp_iand dJ6_bitCount_0f7a4_7 ?_
  refine wp_isub dJ6_bitCount_0f7a4_8 ?_
  refine wp_istore_n [0] (by decide) rfl rfl rfl dJ6_bitCount_0f7a4_9 rfl ?_
  refine wp_iload_n dJ6_bitCount_0f7a4_10 rfl 0 rfl ?_
  refine wp_ldcw (v := 858993459) k_565 dJ6_bitCount_0f7a4_11 ?_
  refine wp_iand dJ6_bitCount_0f7a4_14 ?_
  refine wp_iload_n dJ6_bitCount_0f7a4_15 rfl 0 rfl ?_
  refine wp_iconst (v := 2) dJ6_bitCount_0f7a4_16 (by decide) ?_
  refine wp_iushr dJ6_bitCount_0f7a4_17 ?_
  refine wp_ldcw (v := 858993459) k_565 dJ6_bitCount_0f7a4_18 ?_
  refine wp_iand dJ6_bitCount_0f7a4_21 ?_
  refine wp_iadd dJ6_bitCount_0f7a4_22 ?_
  refine wp_istore_n [0] (by decide) rfl rfl rfl dJ6_bitCount_0f7a4_23 rfl ?_
  refine wp_iload_n dJ6_bitCount_0f7a4_24 rfl 0 rfl ?_
  refine wp_iload_n dJ6_bitCount_0f7a4_25 rfl 0 rfl ?_
  refine wp_iconst (v := 4) dJ6_bitCount_0f7a4_26 (by decide) ?_
  refine wp_iushr dJ6_bitCount_0f7a4_27 ?_
  refine wp_iadd dJ6_bitCount_0f7a4_28 ?_
  refine wp_ldcw (v := 252645135) k_566 dJ6_bitCount_0f7a4_29 ?_
  refine wp_iand dJ6_bitCount_0f7a4_32 ?_
  refine wp_istore_n [0] (by decide) rfl rfl rfl dJ6_bitCount_0f7a4_33 rfl ?_
  refine wp_iload_n dJ6_bitCount_0f7a4_34 rfl 0 rfl ?_
  refine wp_iload_n dJ6_bitCount_0f7a4_35 rfl 0 rfl ?_
  refine wp_bipush (v := 8) dJ6_bitCount_0f7a4_36 (by decide) ?_
  refine wp_iushr dJ6_bitCount_0f7a4_38 ?_
  refine wp_iadd dJ6_bitCount_0f7a4_39 ?_
  refine wp_istore_n [0] (by decide) rfl rfl rfl dJ6_bitCount_0f7a4_40 rfl ?_
  refine wp_iload_n dJ6_bitCount_0f7a4_41 rfl 0 rfl ?_
  refine wp_iload_n dJ6_bitCount_0f7a4_42 rfl 0 rfl ?_
  refine wp_bipush (v := 16) dJ6_bitCount_0f7a4_43 (by decide) ?_
  refine wp_iushr dJ6_bitCount_0f7a4_45 ?_
  refine wp_iadd dJ6_bitCount_0f7a4_46 ?_
  refine wp_istore_n [0] (by decide) rfl rfl rfl dJ6_bitCount_0f7a4_47 rfl ?_
  refine wp_iload_n dJ6_bitCount_0f7a4_48 rfl 0 rfl ?_
  refine wp_bipush (v := 63) dJ6_bitCount_0f7a4_49 (by decide) ?_
  refine wp_iand dJ6_bitCount_0f7a4_51 ?_
  exact wp_iret hC rfl rfl dJ6_bitCount_0f7a4_52 (pP_ok (by have h2 : ∀ n, n < 32 → (fun x : Int32 => ((((((((x) - ((((x).toUInt32 >>> ((1 : Int32).toUInt32 &&& Int32.toUInt32 31)).toInt32) &&& 1431655765)) &&& 858993459) + (((((x) - ((((x).toUInt32 >>> ((1 : Int32).toUInt32 &&& Int32.toUInt32 31)).toInt32) &&& 1431655765)).toUInt32 >>> ((2 : Int32).toUInt32 &&& Int32.toUInt32 31)).toInt32) &&& 858993459)) + ((((((x) - ((((x).toUInt32 >>> ((1 : Int32).toUInt32 &&& Int32.toUInt32 31)).toInt32) &&& 1431655765)) &&& 858993459) + (((((x) - ((((x).toUInt32 >>> ((1 : Int32).toUInt32 &&& Int32.toUInt32 31)).toInt32) &&& 1431655765)).toUInt32 >>> ((2 : Int32).toUInt32 &&& Int32.toUInt32 31)).toInt32) &&& 858993459)).toUInt32 >>> ((4 : Int32).toUInt32 &&& Int32.toUInt32 31)).toInt32)) &&& 252645135) + ((((((((x) - ((((x).toUInt32 >>> ((1 : Int32).toUInt32 &&& Int32.toUInt32 31)).toInt32) &&& 1431655765)) &&& 858993459) + (((((x) - ((((x).toUInt32 >>> ((1 : Int32).toUInt32 &&& Int32.toUInt32 31)).toInt32) &&& 1431655765)).toUInt32 >>> ((2 : Int32).toUInt32 &&& Int32.toUInt32 31)).toInt32) &&& 858993459)) + ((((((x) - ((((x).toUInt32 >>> ((1 : Int32).toUInt32 &&& Int32.toUInt32 31)).toInt32) &&& 1431655765)) &&& 858993459) + (((((x) - ((((x).toUInt32 >>> ((1 : Int32).toUInt32 &&& Int32.toUInt32 31)).toInt32) &&& 1431655765)).toUInt32 >>> ((2 : Int32).toUInt32 &&& Int32.toUInt32 31)).toInt32) &&& 858993459)).toUInt32 >>> ((4 : Int32).toUInt32 &&& Int32.toUInt32 31)).toInt32)) &&& 252645135).toUInt32 >>> ((8 : Int32).toUInt32 &&& Int32.toUInt32 31)).toInt32)) + (((((((((x) - ((((x).toUInt32 >>> ((1 : Int32).toUInt32 &&& Int32.toUInt32 31)).toInt32) &&& 1431655765)) &&& 858993459) + (((((x) - ((((x).toUInt32 >>> ((1 : Int32).toUInt32 &&& Int32.toUInt32 31)).toInt32) &&& 1431655765)).toUInt32 >>> ((2 : Int32).toUInt32 &&& Int32.toUInt32 31)).toInt32) &&& 858993459)) + ((((((x) - ((((x).toUInt32 >>> ((1 : Int32).toUInt32 &&& Int32.toUInt32 31)).toInt32) &&& 1431655765)) &&& 858993459) + (((((x) - ((((x).toUInt32 >>> ((1 : Int32).toUInt32 &&& Int32.toUInt32 31)).toInt32) &&& 1431655765)).toUInt32 >>> ((2 : Int32).toUInt32 &&& Int32.toUInt32 31)).toInt32) &&& 858993459)).toUInt32 >>> ((4 : Int32).toUInt32 &&& Int32.toUInt32 31)).toInt32)) &&& 252645135) + ((((((((x) - ((((x).toUInt32 >>> ((1 : Int32).toUInt32 &&& Int32.toUInt32 31)).toInt32) &&& 1431655765)) &&& 858993459) + (((((x) - ((((x).toUInt32 >>> ((1 : Int32).toUInt32 &&& Int32.toUInt32 31)).toInt32) &&& 1431655765)).toUInt32 >>> ((2 : Int32).toUInt32 &&& Int32.toUInt32 31)).toInt32) &&& 858993459)) + ((((((x) - ((((x).toUInt32 >>> ((1 : Int32).toUInt32 &&& Int32.toUInt32 31)).toInt32) &&& 1431655765)) &&& 858993459) + (((((x) - ((((x).toUInt32 >>> ((1 : Int32).toUInt32 &&& Int32.toUInt32 31)).toInt32) &&& 1431655765)).toUInt32 >>> ((2 : Int32).toUInt32 &&& Int32.toUInt32 31)).toInt32) &&& 858993459)).toUInt32 >>> ((4 : Int32).toUInt32 &&& Int32.toUInt32 31)).toInt32)) &&& 252645135).toUInt32 >>> ((8 : Int32).toUInt32 &&& Int32.toUInt32 31)).toInt32)).toUInt32 >>> ((16 : Int32).toUInt32 &&& Int32.toUInt32 31)).toInt32)) &&& 63) (nI n) = nI (bc n) := (by decide +kernel); exact h2 n hn))

set_option maxRecDepth 100000 in
set_option maxHeartbeats 600000 in
theorem c_X7_howManyDown (l : Launch) (k : Nat) (F A : mmF) (R : mmR) (G : mmG) (a n : Nat) (S : SV) (ha : mm_K a = 7) (hS : isS F A a S) (hn : n < 32) (hd : S.2.2 2 = nI n) : Meets l hX7_howManyDown (k + 1) 144 144 [.ref a] F A R G (pP (manyP (S.2.2 2)) F A R G) := by
  refine mm_start rfl (Nat.le_of_ble_eq_true rfl) (fun X hC => ?_)
  show WP hX7_howManyDown X 144 0 [(0, .ref a)] [] F A R G
  refine wp_aload_n dX7_howManyDown_0 rfl 0 rfl ?_
  refine wp_getI fX7_18 rfl (ha) (st_l0 ha) dX7_howManyDown_1 ?_
  refine wp_top (x' := nI n) (hS.2.2.1.trans hd) ?_
  refine wp_callP (mm_siteS (av := [.int (nI n)]) hC lX7_54 rfl rfl (Nat.le_of_ble_eq_true rfl) dX7_howManyDown_4) (c_J6_bitCount l k _ _ _ _ n hn) (by omega) (by decide) ?_
  exact wp_iret hC rfl rfl dX7_howManyDown_7 (pP_ok (by rw [hd, manyP_nI hn]))

set_option maxRecDepth 100000 in
set_option maxHeartbeats 600000 in
theorem c_X8_append (l : Launch) (k : Nat) (F A : mmF) (R : mmR) (G : mmG) (x : Int32) (n : Nat) (hR : mm_RL R) (hn : n ≤ 60) (hl : F 1 1 = nI n) : Meets l hX8_append k 144 144 [.ref 1, .int x] F A R G (pI (fun v F1 A1 R1 G1 => v = (if n < 60 then 1 else 0) ∧ F1 = (if n < 60 then u2 F 1 1 (nI (n + 1)) else F) ∧ A1 = (if n < 60 then u2 A 2 n x else A) ∧ R = R1 ∧ G = G1)) := by
  refine mm_start rfl (Nat.le_of_ble_eq_true rfl) (fun X hC => ?_)
  show WP hX8_append X 144 0 [(0, .ref 1), (1, .int x)] [] F A R G
  refine wp_aload_n dX8_append_0 rfl 0 rfl ?_
  refine wp_getI fX8_15 rfl (rfl) (by decide) dX8_append_1 ?_
  refine wp_top (x' := nI n) (hl) ?_
  refine wp_bipush (v := 60) dX8_append_4 (by decide) ?_
  refine wp_icmp_lt 11 dX8_append_6 (by decide) (fun c1 => ?_) (fun c1 => ?_)
  · replace c1 := (ix_lt (a := n) (b := 60) (rfl) (rfl) (by omega) (by omega)).mp c1
    refine wp_aload_n dX8_append_11 rfl 0 rfl ?_
    refine wp_getO (q := 2) fX8_9 hR rfl (rfl) (by decide) (by decide) rfl dX8_append_12 ?_
    refine wp_aload_n dX8_append_15 rfl 0 rfl ?_
    refine wp_getI fX8_15 rfl (rfl) (by decide) dX8_append_16 ?_
    refine wp_top (x' := nI n) (hl) ?_
    refine wp_iload_n dX8_append_19 rfl 1 rfl ?_
    refine wp_iast n (rfl) (rfl) (by decide) ((show n < 60 from by omega)) dX8_append_20 ?_
    refine wp_aload_n dX8_append_21 rfl 0 rfl ?_
    refine wp_dup dX8_append_22 rfl ?_
    refine wp_getI fX8_15 rfl (rfl) (by decide) dX8_append_23 ?_
    refine wp_top (x' := nI n) (hl) ?_
    refine wp_iconst (v := 1) dX8_append_26 (by decide) ?_
    refine wp_iadd dX8_append_27 ?_
    refine wp_top (x' := nI (n + 1)) (nI_1 n) ?_
    refine wp_putI fX8_15 fn_8_1 rfl (rfl) (by decide) dX8_append_28 ?_
    refine wp_iconst (v := 1) dX8_append_31 (by decide) ?_
    exact wp_iret hC rfl rfl dX8_append_32 (pI_ok ⟨by rw [if_pos c1], by rw [if_pos c1], by rw [if_pos c1], rfl, rfl⟩)
  · replace c1 := mt (ix_lt (a := n) (b := 60) (rfl) (rfl) (by omega) (by omega)).mpr c1
    refine wp_iconst (v := 0) dX8_append_9 (by decide) ?_
    exact wp_iret hC rfl rfl dX8_append_10 (pI_ok ⟨by rw [if_neg c1], by rw [if_neg c1], by rw [if_neg c1], rfl, rfl⟩)

set_option maxRecDepth 100000 in
set_option maxHeartbeats 600000 in
theorem c_X8_letterAt (l : Launch) (k : Nat) (F A : mmF) (R : mmR) (G : mmG) (i n : Nat) (tx : Nat → Int32) (hR : mm_RL R) (hi : i < 100) (hn : n ≤ 60) (hl : F 1 1 = nI n) (ht : ∀ j, j < n → A 2 j = tx j) : Meets l hX8_letterAt k 144 144 [.ref 1, .int (nI i)] F A R G (pP (if i < n then tx i else -9) F A R G) := by
  refine mm_start rfl (Nat.le_of_ble_eq_true rfl) (fun X hC => ?_)
  show WP hX8_letterAt X 144 0 [(0, .ref 1), (1, .int (nI i))] [] F A R G
  refine wp_iload_n dX8_letterAt_0 rfl 1 rfl ?_
  refine wp_if_lt 21 dX8_letterAt_1 (by decide) (fun c1 => ?_) (fun c1 => ?_)
  · replace c1 := (ix_lt (a := i) (b := 0) (rfl) (rfl) (by omega) (by omega)).mp c1
    exact absurd c1 (by omega)
  · replace c1 := mt (ix_lt (a := i) (b := 0) (rfl) (rfl) (by omega) (by omega)).mpr c1
    refine wp_iload_n dX8_letterAt_4 rfl 1 rfl ?_
    refine wp_aload_n dX8_letterAt_5 rfl 0 rfl ?_
    refine wp_getI fX8_15 rfl (rfl) (by decide) dX8_letterAt_6 ?_
    refine wp_top (x' := nI n) (hl) ?_
    refine wp_icmp_ge 21 dX8_letterAt_9 (by decide) (fun c2 => ?_) (fun c2 => ?_)
    · replace c2 := (ix_le (a := n) (b := i) (rfl) (rfl) (by omega) (by omega)).mp c2
      refine wp_bipush (v := (-9)) dX8_letterAt_21 (by decide) ?_
      exact wp_iret hC rfl rfl dX8_letterAt_23 (pP_ok (by rw [if_neg (by omega)]))
    · replace c2 := mt (ix_le (a := n) (b := i) (rfl) (rfl) (by omega) (by omega)).mpr c2
      refine wp_aload_n dX8_letterAt_12 rfl 0 rfl ?_
      refine wp_getO (q := 2) fX8_9 hR rfl (rfl) (by decide) (by decide) rfl dX8_letterAt_13 ?_
      refine wp_iload_n dX8_letterAt_16 rfl 1 rfl ?_
      refine wp_iald i (rfl) (rfl) (by decide) ((show i < 60 from by omega)) dX8_letterAt_17 ?_
      refine wp_top (x' := tx i) (ht i (by omega)) ?_
      refine wp_goto 23 dX8_letterAt_18 (by decide) ?_
      exact wp_iret hC rfl rfl dX8_letterAt_23 (pP_ok (by rw [if_pos (by omega)]))

/-- the figure that stands at i (NONE: no figure of lo .. hi) -/
def figP (tx : Nat → Int32) (n i : Nat) (lo hi : Int32) : Int32 := if (if i < n then tx i else -9) - 48 < lo then -9 else if hi < (if i < n then tx i else -9) - 48 then -9 else (if i < n then tx i else -9) - 48
set_option maxRecDepth 100000 in
set_option maxHeartbeats 600000 in
theorem c_X8_figureAt (l : Launch) (k : Nat) (F A : mmF) (R : mmR) (G : mmG) (i n : Nat) (lo up : Int32) (tx : Nat → Int32) (hR : mm_RL R) (hi : i < 100) (hn : n ≤ 60) (hl : F 1 1 = nI n) (ht : ∀ j, j < n → A 2 j = tx j) : Meets l hX8_figureAt (k + 1) 144 144 [.ref 1, .int (nI i), .int lo, .int up] F A R G (pP (figP tx n i lo up) F A R G) := by
  refine mm_start rfl (Nat.le_of_ble_eq_true rfl) (fun X hC => ?_)
  show WP hX8_figureAt X 144 0 [(0, .ref 1), (1, .int (nI i)), (2, .int lo), (3, .int up)] [] F A R G
  refine wp_aload_n dX8_figureAt_0 rfl 0 rfl ?_
  refine wp_iload_n dX8_figureAt_1 rfl 1 rfl ?_
  refine wp_callP (mm_siteV (av := [.int (nI i)]) hC lX8_19 (rfl) (by decide) ⟨_, rfl, rfl⟩ rfl rfl (Nat.le_of_ble_eq_true rfl) dX8_figureAt_2) (c_X8_letterAt l k _ _ _ _ i n tx hR hi hn hl ht) (by omega) (by decide) ?_
  refine wp_bipush (v := 48) dX8_figureAt_5 (by decide) ?_
  refine wp_isub dX8_figureAt_7 ?_
  refine wp_istore [1, 2, 3, 4, 0] (by decide) rfl rfl rfl dX8_figureAt_8 ?_
  refine wp_iload dX8_figureAt_10 4 rfl ?_
  refine wp_iload_n dX8_figureAt_12 rfl 2 rfl ?_
  refine wp_icmp_lt 27 dX8_figureAt_13 (by decide) (fun c1 => ?_) (fun c1 => ?_)
  · refine wp_bipush (v := (-9)) dX8_figureAt_27 (by decide) ?_
    exact wp_iret hC rfl rfl dX8_figureAt_29 (pP_ok (by unfold figP; simp only [*, if_true, if_false]; done))
  · refine wp_iload dX8_figureAt_16 4 rfl ?_
    refine wp_iload_n dX8_figureAt_18 rfl 3 rfl ?_
    refine wp_icmp_gt 27 dX8_figureAt_19 (by decide) (fun c2 => ?_) (fun c2 => ?_)
    · refine wp_bipush (v := (-9)) dX8_figureAt_27 (by decide) ?_
      exact wp_iret hC rfl rfl dX8_figureAt_29 (pP_ok (by unfold figP; simp only [*, if_true, if_false]; done))
    · refine wp_iload dX8_figureAt_22 4 rfl ?_
      refine wp_goto 29 dX8_figureAt_24 (by decide) ?_
      exact wp_iret hC rfl rfl dX8_figureAt_29 (pP_ok (by unfold figP; simp only [*, if_true, if_false]; done))

set_option maxRecDepth 100000 in
set_option maxHeartbeats 600000 in
theorem c_X0_remember (l : Launch) (k : Nat) (F A : mmF) (R : mmR) (G : mmG) (fi cn : Nat) (S : SV) (hR : mm_RL R) (h1 : F 6 1 = nI fi) (h2 : F 6 2 = nI cn) (hfi : fi < 14) (hcn : cn ≤ 14) (hS : isS F A 3 S) : Meets l hX0_remember (k + 3) 144 144 [.ref 6, .ref 3] F A R G (pV (fun F1 A1 R1 G1 => isS F1 A1 (8 + 3 * ((fi + cn) % 14)) S ∧ F1 6 1 = nI (if cn < 14 then fi else (fi + 1) % 14) ∧ F1 6 2 = nI (if cn < 14 then cn + 1 else 14) ∧ (∀ r, r ≠ 6 → r ≠ 8 + 3 * ((fi + cn) % 14) → F1 r = F r) ∧ (∀ r, r ≠ 8 + 3 * ((fi + cn) % 14) + 1 → r ≠ 8 + 3 * ((fi + cn) % 14) + 2 → A1 r = A r) ∧ R = R1 ∧ G = G1)) := by
  refine mm_start rfl (Nat.le_of_ble_eq_true rfl) (fun X hC => ?_)
  show WP hX0_remember X 144 0 [(0, .ref 6), (1, .ref 3)] [] F A R G
  refine wp_aload_n dX0_remember_0 rfl 0 rfl ?_
  refine wp_getO (q := 7) fX0_13 hR rfl (rfl) (by decide) (by decide) rfl dX0_remember_1 ?_
  refine wp_aload_n dX0_remember_4 rfl 0 rfl ?_
  refine wp_getI fX0_19 rfl (rfl) (by decide) dX0_remember_5 ?_
  refine wp_top (x' := nI fi) (h1) ?_
  refine wp_aload_n dX0_remember_8 rfl 0 rfl ?_
  refine wp_getI fX0_23 rfl (rfl) (by decide) dX0_remember_9 ?_
  refine wp_top (x' := nI cn) (h2) ?_
  refine wp_iadd dX0_remember_12 ?_
  refine wp_bipush (v := 14) dX0_remember_13 (by decide) ?_
  refine wp_irem dX0_remember_15 (by decide) ?_
  obtain ⟨p, hp⟩ : ∃ p, p = 8 + 3 * ((fi + cn) % 14) := ⟨_, rfl⟩
  have hpK : mm_K p = 7 := by rw [hp]; exact ac_K (Nat.mod_lt _ (by decide))
  have hp3 : p ≠ 3 ∧ 8 ≤ p := by omega
  refine wp_aaldO (q := p) hR ((fi + cn) % 14) (ix_rem (ix_add rfl rfl) rfl (by omega) (by omega) (by omega)) (rfl) (by decide) ((show (fi + cn) % 14 < 14 from Nat.mod_lt _ (by decide))) (hp.symm) dX0_remember_16 ?_
  refine wp_aload_n dX0_remember_17 rfl 1 rfl ?_
  refine wp_callV (mm_siteV (av := [.ref 3]) hC lX0_26 (hpK) (st_l0 hpK) ⟨_, rfl, rfl⟩ rfl rfl (Nat.le_of_ble_eq_true rfl) dX0_remember_18) (c_X7_becomeAs l k _ _ _ _ _ _ S hR hpK rfl (by omega) hS) (by omega) (by decide) (by decide) ?_
  rintro F_1 A_1 _ _ ⟨hS_1, hg_1, rfl, rfl⟩
  have h1 : F_1 6 1 = nI fi := by rw [hg_1.1 6 (by omega)]; exact h1
  have h2 : F_1 6 2 = nI cn := by rw [hg_1.1 6 (by omega)]; exact h2
  refine wp_aload_n dX0_remember_21 rfl 0 rfl ?_
  refine wp_getI fX0_23 rfl (rfl) (by decide) dX0_remember_22 ?_
  refine wp_top (x' := nI cn) (h2) ?_
  refine wp_bipush (v := 14) dX0_remember_25 (by decide) ?_
  refine wp_icmp_ge 43 dX0_remember_27 (by decide) (fun c1 => ?_) (fun c1 => ?_)
  · replace c1 := (ix_le (a := 14) (b := cn) (rfl) (rfl) (by omega) (by omega)).mp c1
    refine wp_aload_n dX0_remember_43 rfl 0 rfl ?_
    refine wp_aload_n dX0_remember_44 rfl 0 rfl ?_
    refine wp_getI fX0_19 rfl (rfl) (by decide) dX0_remember_45 ?_
    refine wp_top (x' := nI fi) (h1) ?_
    refine wp_iconst (v := 1) dX0_remember_48 (by decide) ?_
    refine wp_iadd dX0_remember_49 ?_
    refine wp_bipush (v := 14) dX0_remember_50 (by decide) ?_
    refine wp_irem dX0_remember_52 (by decide) ?_
    refine wp_top (x' := nI ((fi + 1) % 14)) (ix_rem (a := fi + 1) (b := 14) (nI_1 fi) rfl (by omega) (by omega) (by omega)) ?_
    refine wp_putI fX0_19 fn_0_1 rfl (rfl) (by decide) dX0_remember_53 ?_
    exact wp_vret hC rfl dX0_remember_56 (pV_ok (by rw [← hp]; exact ⟨⟨hS_1.1, hS_1.2.1, by simp [u2, va_up, show p ≠ 6 by omega, hS_1.2.2.1], by simp [u2, va_up, show p ≠ 6 by omega, hS_1.2.2.2.1], by simp [u2, va_up, show p ≠ 6 by omega, hS_1.2.2.2.2.1], by simp [u2, va_up, show p ≠ 6 by omega, hS_1.2.2.2.2.2.1], by simp [u2, va_up, show p ≠ 6 by omega, hS_1.2.2.2.2.2.2]⟩, by rw [if_neg (by omega)]; simp [u2, va_up], by rw [if_neg (by omega)]; simp [u2, va_up, h2]; congr 1; omega, fun r hr hr2 => by simp [u2, va_up, hr, hg_1.1 r hr2], fun r hr hr2 => hg_1.2 r hr hr2, rfl, rfl⟩))
  · replace c1 := mt (ix_le (a := 14) (b := cn) (rfl) (rfl) (by omega) (by omega)).mpr c1
    refine wp_aload_n dX0_remember_30 rfl 0 rfl ?_
    refine wp_dup dX0_remember_31 rfl ?_
    refine wp_getI fX0_23 rfl (rfl) (by decide) dX0_remember_32 ?_
    refine wp_top (x' := nI cn) (h2) ?_
    refine wp_iconst (v := 1) dX0_remember_35 (by decide) ?_
    refine wp_iadd dX0_remember_36 ?_
    refine wp_top (x' := nI (cn + 1)) (nI_1 cn) ?_
    refine wp_putI fX0_23 fn_0_2 rfl (rfl) (by decide) dX0_remember_37 ?_
    refine wp_goto 56 dX0_remember_40 (by decide) ?_
    exact wp_vret hC rfl dX0_remember_56 (pV_ok (by rw [← hp]; exact ⟨⟨hS_1.1, hS_1.2.1, by simp [u2, va_up, show p ≠ 6 by omega, hS_1.2.2.1], by simp [u2, va_up, show p ≠ 6 by omega, hS_1.2.2.2.1], by simp [u2, va_up, show p ≠ 6 by omega, hS_1.2.2.2.2.1], by simp [u2, va_up, show p ≠ 6 by omega, hS_1.2.2.2.2.2.1], by simp [u2, va_up, show p ≠ 6 by omega, hS_1.2.2.2.2.2.2]⟩, by rw [if_pos (by omega)]; simp [u2, va_up, h1], by rw [if_pos (by omega)]; simp [u2, va_up], fun r hr hr2 => by simp [u2, va_up, hr, hg_1.1 r hr2], fun r hr hr2 => hg_1.2 r hr hr2, rfl, rfl⟩))

set_option maxRecDepth 100000 in
set_option maxHeartbeats 600000 in
theorem c_X0_takeBack (l : Launch) (k : Nat) (F A : mmF) (R : mmR) (G : mmG) (fi cn : Nat) (S : SV) (hR : mm_RL R) (h1 : F 6 1 = nI fi) (h2 : F 6 2 = nI cn) (hfi : fi < 14) (hcn : cn ≤ 14) (hS : 0 < cn → isS F A (8 + 3 * ((fi + (cn - 1)) % 14)) S) : Meets l hX0_takeBack (k + 3) 144 144 [.ref 6, .ref 3] F A R G (pI (fun v F1 A1 R1 G1 => ((cn = 0 ∧ v = 0 ∧ F1 = F ∧ A1 = A) ∨ (0 < cn ∧ v = 1 ∧ isS F1 A1 3 S ∧ F1 6 1 = nI fi ∧ F1 6 2 = nI (cn - 1) ∧ (∀ r, r ≠ 6 → r ≠ 3 → F1 r = F r) ∧ (∀ r, r ≠ 4 → r ≠ 5 → A1 r = A r))) ∧ R = R1 ∧ G = G1)) := by
  refine mm_start rfl (Nat.le_of_ble_eq_true rfl) (fun X hC => ?_)
  show WP hX0_takeBack X 144 0 [(0, .ref 6), (1, .ref 3)] [] F A R G
  refine wp_aload_n dX0_takeBack_0 rfl 0 rfl ?_
  refine wp_getI fX0_23 rfl (rfl) (by decide) dX0_takeBack_1 ?_
  refine wp_top (x' := nI cn) (h2) ?_
  refine wp_if_ne 9 dX0_takeBack_4 (by decide) (fun c1 => ?_) (fun c1 => ?_)
  · replace c1 := mt (ix_eq (a := cn) (b := 0) (rfl) (rfl) (by omega) (by omega)).mpr c1
    refine wp_aload_n dX0_takeBack_9 rfl 0 rfl ?_
    refine wp_dup dX0_takeBack_10 rfl ?_
    refine wp_getI fX0_23 rfl (rfl) (by decide) dX0_takeBack_11 ?_
    refine wp_top (x' := nI cn) (h2) ?_
    refine wp_iconst (v := 1) dX0_takeBack_14 (by decide) ?_
    refine wp_isub dX0_takeBack_15 ?_
    refine wp_top (x' := nI (cn - 1)) (ix_sub (a := cn) (b := 1) rfl rfl (by omega)) ?_
    refine wp_putI fX0_23 fn_0_2 rfl (rfl) (by decide) dX0_takeBack_16 ?_
    refine wp_aload_n dX0_takeBack_19 rfl 1 rfl ?_
    refine wp_aload_n dX0_takeBack_20 rfl 0 rfl ?_
    refine wp_getO (q := 7) fX0_13 hR rfl (rfl) (by decide) (by decide) rfl dX0_takeBack_21 ?_
    refine wp_aload_n dX0_takeBack_24 rfl 0 rfl ?_
    refine wp_getI fX0_19 rfl (rfl) (by decide) dX0_takeBack_25 ?_
    refine wp_top (x' := nI fi) (by simp [u2, va_up, h1]) ?_
    refine wp_aload_n dX0_takeBack_28 rfl 0 rfl ?_
    refine wp_getI fX0_23 rfl (rfl) (by decide) dX0_takeBack_29 ?_
    refine wp_top (x' := nI (cn - 1)) (by simp [u2, va_up]) ?_
    refine wp_iadd dX0_takeBack_32 ?_
    refine wp_bipush (v := 14) dX0_takeBack_33 (by decide) ?_
    refine wp_irem dX0_takeBack_35 (by decide) ?_
    obtain ⟨p, hp⟩ : ∃ p, p = 8 + 3 * ((fi + (cn - 1)) % 14) := ⟨_, rfl⟩
    have hpK : mm_K p = 7 := by rw [hp]; exact ac_K (Nat.mod_lt _ (by decide))
    have hp3 : p ≠ 3 ∧ 8 ≤ p := by omega
    have hS : isS F A p S := by rw [hp]; exact hS (by omega)
    have hS0 : isS (u2 F 6 2 (nI (cn - 1))) A p S := by simp only [isS, u2, va_up, show ¬ p = 6 by omega, if_false]; exact hS
    refine wp_aaldO (q := p) hR ((fi + (cn - 1)) % 14) (ix_rem (ix_add rfl rfl) rfl (by omega) (by omega) (by omega)) (rfl) (by decide) ((show (fi + (cn - 1)) % 14 < 14 from Nat.mod_lt _ (by decide))) (hp.symm) dX0_takeBack_36 ?_
    refine wp_callV (mm_siteV (av := [.ref p]) hC lX0_26 (rfl) (by decide) ⟨_, rfl, rfl⟩ rfl rfl (Nat.le_of_ble_eq_true rfl) dX0_takeBack_37) (c_X7_becomeAs l k _ _ _ _ _ _ S hR rfl hpK (by omega) hS0) (by omega) (by decide) (by decide) ?_
    rintro F_1 A_1 _ _ ⟨hS_1, hg_1, rfl, rfl⟩
    refine wp_iconst (v := 1) dX0_takeBack_40 (by decide) ?_
    exact wp_iret hC rfl rfl dX0_takeBack_41 (pI_ok ⟨Or.inr ⟨by omega, rfl, hS_1, by rw [hg_1.1 6 (by decide)]; simp [u2, va_up, h1], by rw [hg_1.1 6 (by decide)]; simp [u2, va_up], fun r hr hr2 => by rw [hg_1.1 r hr2]; simp [u2, va_up, hr], fun r hr hr2 => hg_1.2 r hr hr2⟩, rfl, rfl⟩)
  · replace c1 := (ix_eq (a := cn) (b := 0) (rfl) (rfl) (by omega) (by omega)).mp c1
    refine wp_iconst (v := 0) dX0_takeBack_7 (by decide) ?_
    exact wp_iret hC rfl rfl dX0_takeBack_8 (pI_ok ⟨Or.inl ⟨c1, rfl, rfl, rfl⟩, rfl, rfl⟩)

set_option maxRecDepth 100000 in
set_option maxHeartbeats 600000 in
theorem c_X0_forgetAll (l : Launch) (k : Nat) (F A : mmF) (R : mmR) (G : mmG)  : Meets l hX0_forgetAll k 144 144 [.ref 6] F A R G (pV (fun F1 A1 R1 G1 => F1 = u2 (u2 F 6 1 0) 6 2 0 ∧ A1 = A ∧ R = R1 ∧ G = G1)) := by
  refine mm_start rfl (Nat.le_of_ble_eq_true rfl) (fun X hC => ?_)
  show WP hX0_forgetAll X 144 0 [(0, .ref 6)] [] F A R G
  refine wp_aload_n dX0_forgetAll_0 rfl 0 rfl ?_
  refine wp_iconst (v := 0) dX0_forgetAll_1 (by decide) ?_
  refine wp_putI fX0_19 fn_0_1 rfl (rfl) (by decide) dX0_forgetAll_2 ?_
  refine wp_aload_n dX0_forgetAll_5 rfl 0 rfl ?_
  refine wp_iconst (v := 0) dX0_forgetAll_6 (by decide) ?_
  refine wp_putI fX0_23 fn_0_2 rfl (rfl) (by decide) dX0_forgetAll_7 ?_
  exact wp_vret hC rfl dX0_forgetAll_10 (pV_ok ⟨rfl, rfl, rfl, rfl⟩)

set_option maxRecDepth 100000 in
set_option maxHeartbeats 600000 in
theorem c_X6_put (l : Launch) (k : Nat) (F A : mmF) (R : mmR) (G : mmG) (j : Nat) (S : SV) (hR : mm_RL R) (hj : j < 2) (hS : isS F A 3 S) : Meets l hX6_put (k + 3) 144 144 [.ref 54, .int (nI j), .ref 3] F A R G (pI (fun v F1 A1 R1 G1 => v = 1 ∧ isS F1 A1 (56 + 3 * j) S ∧ A1 62 = va_up (A 62) j 1 ∧ (∀ r, r ≠ 56 + 3 * j → F1 r = F r) ∧ (∀ r, r ≠ 56 + 3 * j + 1 → r ≠ 56 + 3 * j + 2 → r ≠ 62 → A1 r = A r) ∧ R = R1 ∧ G = G1)) := by
  refine mm_start rfl (Nat.le_of_ble_eq_true rfl) (fun X hC => ?_)
  show WP hX6_put X 144 0 [(0, .ref 54), (1, .int (nI j)), (2, .ref 3)] [] F A R G
  refine wp_iload_n dX6_put_0 rfl 1 rfl ?_
  refine wp_if_lt 9 dX6_put_1 (by decide) (fun c1 => ?_) (fun c1 => ?_)
  · replace c1 := (ix_lt (a := j) (b := 0) (rfl) (rfl) (by omega) (by omega)).mp c1
    exact absurd c1 (by omega)
  · replace c1 := mt (ix_lt (a := j) (b := 0) (rfl) (rfl) (by omega) (by omega)).mpr c1
    refine wp_iload_n dX6_put_4 rfl 1 rfl ?_
    refine wp_iconst (v := 2) dX6_put_5 (by decide) ?_
    refine wp_icmp_lt 11 dX6_put_6 (by decide) (fun c2 => ?_) (fun c2 => ?_)
    · replace c2 := (ix_lt (a := j) (b := 2) (rfl) (rfl) (by omega) (by omega)).mp c2
      refine wp_aload_n dX6_put_11 rfl 0 rfl ?_
      refine wp_getO (q := 55) fX6_13 hR rfl (rfl) (by decide) (by decide) rfl dX6_put_12 ?_
      refine wp_iload_n dX6_put_15 rfl 1 rfl ?_
      obtain ⟨p, hp⟩ : ∃ p, p = 56 + 3 * j := ⟨_, rfl⟩
      have hpK : mm_K p = 7 := by rw [hp]; exact sl_K hj
      have hp3 : p ≠ 3 ∧ 56 ≤ p ∧ p < 62 := by omega
      refine wp_aaldO (q := p) hR j (rfl) (rfl) (by decide) ((show j < 2 from by omega)) (hp.symm) dX6_put_16 ?_
      refine wp_aload_n dX6_put_17 rfl 2 rfl ?_
      refine wp_callV (mm_siteV (av := [.ref 3]) hC lX6_23 (hpK) (st_l0 hpK) ⟨_, rfl, rfl⟩ rfl rfl (Nat.le_of_ble_eq_true rfl) dX6_put_18) (c_X7_becomeAs l k _ _ _ _ _ _ S hR hpK rfl (by omega) hS) (by omega) (by decide) (by decide) ?_
      rintro F_1 A_1 _ _ ⟨hS_1, hg_1, rfl, rfl⟩
      refine wp_aload_n dX6_put_21 rfl 0 rfl ?_
      refine wp_getO (q := 62) fX6_19 hR rfl (rfl) (by decide) (by decide) rfl dX6_put_22 ?_
      refine wp_iload_n dX6_put_25 rfl 1 rfl ?_
      refine wp_iconst (v := 1) dX6_put_26 (by decide) ?_
      refine wp_zast j (rfl) rfl (rfl) (by decide) ((show j < 2 from by omega)) dX6_put_27 ?_
      refine wp_iconst (v := 1) dX6_put_28 (by decide) ?_
      exact wp_iret hC rfl rfl dX6_put_29 (pI_ok (by rw [← hp]; exact ⟨rfl, ⟨by simp only [u2, va_up, show ¬ p + 1 = 62 by omega, if_false]; exact hS_1.1, by simp only [u2, va_up, show ¬ p + 2 = 62 by omega, if_false]; exact hS_1.2.1, hS_1.2.2⟩, by simp only [u2, va_up_self]; rw [hg_1.2 62 (by omega) (by omega)], fun r hr => hg_1.1 r hr, fun r hr hr2 hr3 => by simp only [u2, va_up, hr3, if_false]; exact hg_1.2 r hr hr2, rfl, rfl⟩))
    · replace c2 := mt (ix_lt (a := j) (b := 2) (rfl) (rfl) (by omega) (by omega)).mpr c2
      exact absurd c2 (by omega)

set_option maxRecDepth 100000 in
set_option maxHeartbeats 600000 in
theorem c_X6_putO (l : Launch) (k : Nat) (F A : mmF) (R : mmR) (G : mmG) (x : Int32) (hx : x < 0 ∨ 2 ≤ x) : Meets l hX6_put (k + 3) 144 144 [.ref 54, .int x, .ref 3] F A R G (pP 0 F A R G) := by
  refine mm_start rfl (Nat.le_of_ble_eq_true rfl) (fun X hC => ?_)
  show WP hX6_put X 144 0 [(0, .ref 54), (1, .int x), (2, .ref 3)] [] F A R G
  refine wp_iload_n dX6_put_0 rfl 1 rfl ?_
  refine wp_if_lt 9 dX6_put_1 (by decide) (fun c1 => ?_) (fun c1 => ?_)
  · refine wp_iconst (v := 0) dX6_put_9 (by decide) ?_
    exact wp_iret hC rfl rfl dX6_put_10 (pP_ok rfl)
  · refine wp_iload_n dX6_put_4 rfl 1 rfl ?_
    refine wp_iconst (v := 2) dX6_put_5 (by decide) ?_
    refine wp_icmp_lt 11 dX6_put_6 (by decide) (fun c2 => ?_) (fun c2 => ?_)
    · exact absurd hx (by rintro (h | h); exact c1 h; exact absurd c2 (Int32.not_lt.mpr h))
    · refine wp_iconst (v := 0) dX6_put_9 (by decide) ?_
      exact wp_iret hC rfl rfl dX6_put_10 (pP_ok rfl)

set_option maxRecDepth 100000 in
set_option maxHeartbeats 600000 in
theorem c_X6_get (l : Launch) (k : Nat) (F A : mmF) (R : mmR) (G : mmG) (j : Nat) (S : SV) (hR : mm_RL R) (hj : j < 2) (hS : ¬ A 62 j = 0 → isS F A (56 + 3 * j) S) : Meets l hX6_get (k + 3) 144 144 [.ref 54, .int (nI j), .ref 3] F A R G (pI (fun v F1 A1 R1 G1 => ((A 62 j = 0 ∧ v = 0 ∧ F1 = F ∧ A1 = A) ∨ (¬ A 62 j = 0 ∧ v = 1 ∧ isS F1 A1 3 S ∧ fr 3 F A F1 A1)) ∧ R = R1 ∧ G = G1)) := by
  refine mm_start rfl (Nat.le_of_ble_eq_true rfl) (fun X hC => ?_)
  show WP hX6_get X 144 0 [(0, .ref 54), (1, .int (nI j)), (2, .ref 3)] [] F A R G
  refine wp_iload_n dX6_get_0 rfl 1 rfl ?_
  refine wp_if_lt 18 dX6_get_1 (by decide) (fun c1 => ?_) (fun c1 => ?_)
  · replace c1 := (ix_lt (a := j) (b := 0) (rfl) (rfl) (by omega) (by omega)).mp c1
    exact absurd c1 (by omega)
  · replace c1 := mt (ix_lt (a := j) (b := 0) (rfl) (rfl) (by omega) (by omega)).mpr c1
    refine wp_iload_n dX6_get_4 rfl 1 rfl ?_
    refine wp_iconst (v := 2) dX6_get_5 (by decide) ?_
    refine wp_icmp_ge 18 dX6_get_6 (by decide) (fun c2 => ?_) (fun c2 => ?_)
    · replace c2 := (ix_le (a := 2) (b := j) (rfl) (rfl) (by omega) (by omega)).mp c2
      exact absurd c2 (by omega)
    · replace c2 := mt (ix_le (a := 2) (b := j) (rfl) (rfl) (by omega) (by omega)).mpr c2
      refine wp_aload_n dX6_get_9 rfl 0 rfl ?_
      refine wp_getO (q := 62) fX6_19 hR rfl (rfl) (by decide) (by decide) rfl dX6_get_10 ?_
      refine wp_iload_n dX6_get_13 rfl 1 rfl ?_
      refine wp_zald j (rfl) (rfl) (by decide) ((show j < 2 from by omega)) dX6_get_14 ?_
      refine wp_if_ne 20 dX6_get_15 (by decide) (fun c3 => ?_) (fun c3 => ?_)
      · refine wp_aload_n dX6_get_20 rfl 2 rfl ?_
        refine wp_aload_n dX6_get_21 rfl 0 rfl ?_
        refine wp_getO (q := 55) fX6_13 hR rfl (rfl) (by decide) (by decide) rfl dX6_get_22 ?_
        refine wp_iload_n dX6_get_25 rfl 1 rfl ?_
        obtain ⟨p, hp⟩ : ∃ p, p = 56 + 3 * j := ⟨_, rfl⟩
        have hpK : mm_K p = 7 := by rw [hp]; exact sl_K hj
        have hp3 : p ≠ 3 ∧ 56 ≤ p ∧ p < 62 := by omega
        have hS0 : isS F A p S := by rw [hp]; exact hS c3
        refine wp_aaldO (q := p) hR j (rfl) (rfl) (by decide) ((show j < 2 from by omega)) (hp.symm) dX6_get_26 ?_
        refine wp_callV (mm_siteV (av := [.ref p]) hC lX6_23 (rfl) (by decide) ⟨_, rfl, rfl⟩ rfl rfl (Nat.le_of_ble_eq_true rfl) dX6_get_27) (c_X7_becomeAs l k _ _ _ _ _ _ S hR rfl hpK (by omega) hS0) (by omega) (by decide) (by decide) ?_
        rintro F_1 A_1 _ _ ⟨hS_1, hg_1, rfl, rfl⟩
        refine wp_iconst (v := 1) dX6_get_30 (by decide) ?_
        exact wp_iret hC rfl rfl dX6_get_31 (pI_ok ⟨Or.inr ⟨c3, rfl, hS_1, hg_1⟩, rfl, rfl⟩)
      · refine wp_iconst (v := 0) dX6_get_18 (by decide) ?_
        exact wp_iret hC rfl rfl dX6_get_19 (pI_ok ⟨Or.inl ⟨c3, rfl, rfl, rfl⟩, rfl, rfl⟩)

set_option maxRecDepth 100000 in
set_option maxHeartbeats 600000 in
theorem c_X6_forgetAll (l : Launch) (k : Nat) (F A : mmF) (R : mmR) (G : mmG) (hR : mm_RL R) : Meets l hX6_forgetAll k 144 144 [.ref 54] F A R G (pV (fun F1 A1 R1 G1 => F1 = F ∧ A1 62 0 = 0 ∧ A1 62 1 = 0 ∧ (∀ r, r ≠ 62 → A1 r = A r) ∧ R = R1 ∧ G = G1)) := by
  refine mm_start rfl (Nat.le_of_ble_eq_true rfl) (fun X hC => ?_)
  show WP hX6_forgetAll X 144 0 [(0, .ref 54)] [] F A R G
  refine wp_iconst (v := 0) dX6_forgetAll_0 (by decide) ?_
  refine wp_istore_n [1, 0] (by decide) rfl rfl rfl dX6_forgetAll_1 rfl ?_
  have lp : ∀ (nn : Nat) (i : Nat) (A1 : mmF), (i ≤ 2) → (∀ j, j < i → A1 62 j = 0) → (∀ r, r ≠ 62 → A1 r = A r) → 2 - i < nn → WP hX6_forgetAll X 144 2 [(0, .ref 54), (1, .int (nI i))] [] F A1 R G := by
    intro nn
    induction nn with
    | zero => intro i A1 _ _ _ hm; exact absurd hm (Nat.not_lt_zero _)
    | succ nn ih_lp =>
      intro i A1 hi hz hr hm_lp
      refine wp_iload_n dX6_forgetAll_2 rfl 1 rfl ?_
      refine wp_iconst (v := 2) dX6_forgetAll_3 (by decide) ?_
      refine wp_icmp_ge 20 dX6_forgetAll_4 (by decide) (fun c1 => ?_) (fun c1 => ?_)
      · replace c1 := (ix_le (a := 2) (b := i) (rfl) (rfl) (by omega) (by omega)).mp c1
        exact wp_vret hC rfl dX6_forgetAll_20 (pV_ok ⟨rfl, hz 0 (by omega), hz 1 (by omega), hr, rfl, rfl⟩)
      · replace c1 := mt (ix_le (a := 2) (b := i) (rfl) (rfl) (by omega) (by omega)).mpr c1
        refine wp_aload_n dX6_forgetAll_7 rfl 0 rfl ?_
        refine wp_getO (q := 62) fX6_19 hR rfl (rfl) (by decide) (by decide) rfl dX6_forgetAll_8 ?_
        refine wp_iload_n dX6_forgetAll_11 rfl 1 rfl ?_
        refine wp_iconst (v := 0) dX6_forgetAll_12 (by decide) ?_
        refine wp_zast i (rfl) rfl (rfl) (by decide) ((show i < 2 from by omega)) dX6_forgetAll_13 ?_
        refine wp_iinc (v := nI (i + 1)) 1 rfl (by exact nI_1 i) [1, 0] (by decide) rfl rfl rfl dX6_forgetAll_14 ?_
        refine wp_goto 2 dX6_forgetAll_17 (by decide) ?_
        exact ih_lp (i + 1) _ (by omega) (fun j hj => by by_cases h : j = i <;> simp [u2, va_up, h] ; exact hz j (by omega)) (fun r h => by simp [u2, va_up, h]; exact hr r h) (by omega)
  exact lp (2 + 1) 0 A (by decide) (fun _ h => absurd h (Nat.not_lt_zero _)) (fun _ _ => rfl) (by omega)

set_option maxRecDepth 100000 in
set_option maxHeartbeats 600000 in
theorem c_X5_append (l : Launch) (k : Nat) (F A : mmF) (R : mmR) (G : mmG) (x y z : Int32) (n : Nat) (hR : mm_RL R) (hn : n ≤ 6) (hl : F 50 3 = nI n) : Meets l hX5_append k 144 144 [.ref 50, .int x, .int y, .int z] F A R G (pI (fun v F1 A1 R1 G1 => v = (if n < 6 then 1 else 0) ∧ F1 = (if n < 6 then u2 F 50 3 (nI (n + 1)) else F) ∧ A1 = (if n < 6 then u2 (u2 (u2 A 51 n x) 52 n y) 53 n z else A) ∧ R = R1 ∧ G = G1)) := by
  refine mm_start rfl (Nat.le_of_ble_eq_true rfl) (fun X hC => ?_)
  show WP hX5_append X 144 0 [(0, .ref 50), (1, .int x), (2, .int y), (3, .int z)] [] F A R G
  refine wp_aload_n dX5_append_0 rfl 0 rfl ?_
  refine wp_getI fX5_21 rfl (rfl) (by decide) dX5_append_1 ?_
  refine wp_top (x' := nI n) (hl) ?_
  refine wp_bipush (v := 6) dX5_append_4 (by decide) ?_
  refine wp_icmp_lt 11 dX5_append_6 (by decide) (fun c1 => ?_) (fun c1 => ?_)
  · replace c1 := (ix_lt (a := n) (b := 6) (rfl) (rfl) (by omega) (by omega)).mp c1
    refine wp_aload_n dX5_append_11 rfl 0 rfl ?_
    refine wp_getO (q := 51) fX5_9 hR rfl (rfl) (by decide) (by decide) rfl dX5_append_12 ?_
    refine wp_aload_n dX5_append_15 rfl 0 rfl ?_
    refine wp_getI fX5_21 rfl (rfl) (by decide) dX5_append_16 ?_
    refine wp_top (x' := nI n) (hl) ?_
    refine wp_iload_n dX5_append_19 rfl 1 rfl ?_
    refine wp_iast n (rfl) (rfl) (by decide) ((show n < 6 from by omega)) dX5_append_20 ?_
    refine wp_aload_n dX5_append_21 rfl 0 rfl ?_
    refine wp_getO (q := 52) fX5_15 hR rfl (rfl) (by decide) (by decide) rfl dX5_append_22 ?_
    refine wp_aload_n dX5_append_25 rfl 0 rfl ?_
    refine wp_getI fX5_21 rfl (rfl) (by decide) dX5_append_26 ?_
    refine wp_top (x' := nI n) (hl) ?_
    refine wp_iload_n dX5_append_29 rfl 2 rfl ?_
    refine wp_iast n (rfl) (rfl) (by decide) ((show n < 6 from by omega)) dX5_append_30 ?_
    refine wp_aload_n dX5_append_31 rfl 0 rfl ?_
    refine wp_getO (q := 53) fX5_18 hR rfl (rfl) (by decide) (by decide) rfl dX5_append_32 ?_
    refine wp_aload_n dX5_append_35 rfl 0 rfl ?_
    refine wp_getI fX5_21 rfl (rfl) (by decide) dX5_append_36 ?_
    refine wp_top (x' := nI n) (hl) ?_
    refine wp_iload_n dX5_append_39 rfl 3 rfl ?_
    refine wp_iast n (rfl) (rfl) (by decide) ((show n < 6 from by omega)) dX5_append_40 ?_
    refine wp_aload_n dX5_append_41 rfl 0 rfl ?_
    refine wp_dup dX5_append_42 rfl ?_
    refine wp_getI fX5_21 rfl (rfl) (by decide) dX5_append_43 ?_
    refine wp_top (x' := nI n) (hl) ?_
    refine wp_iconst (v := 1) dX5_append_46 (by decide) ?_
    refine wp_iadd dX5_append_47 ?_
    refine wp_top (x' := nI (n + 1)) (nI_1 n) ?_
    refine wp_putI fX5_21 fn_5_3 rfl (rfl) (by decide) dX5_append_48 ?_
    refine wp_iconst (v := 1) dX5_append_51 (by decide) ?_
    exact wp_iret hC rfl rfl dX5_append_52 (pI_ok ⟨by rw [if_pos c1], by rw [if_pos c1], by rw [if_pos c1], rfl, rfl⟩)
  · replace c1 := mt (ix_lt (a := n) (b := 6) (rfl) (rfl) (by omega) (by omega)).mpr c1
    refine wp_iconst (v := 0) dX5_append_9 (by decide) ?_
    exact wp_iret hC rfl rfl dX5_append_10 (pI_ok ⟨by rw [if_neg c1], by rw [if_neg c1], by rw [if_neg c1], rfl, rfl⟩)

/-- do the sightings from i on, of n more, agree with this husk's falling by just so much? -/
def agP (sr : Nat → Nat → Int32) (h firm : Int32) : Nat → Nat → Int32
  | _, 0 => 1
  | i, n + 1 => if sr 0 i = h then (if (if sr 1 i < firm then 0 else 1) = sr 2 i then agP sr h firm (i + 1) n else 0) else agP sr h firm (i + 1) n
def hoP (sr : Nat → Nat → Int32) (n : Nat) (h by_ : Int32) : Int32 := (List.range' 1 9).foldl (fun b v => if agP sr h (nI v + by_) 0 n = 0 then b else b ||| sh v) 0
set_option maxRecDepth 100000 in
set_option maxHeartbeats 600000 in
theorem c_X5_agree (l : Launch) (k : Nat) (F A : mmF) (R : mmR) (G : mmG) (h fm : Int32) (n : Nat) (sr : Nat → Nat → Int32) (hR : mm_RL R) (hn : n ≤ 6) (hl : F 50 3 = nI n) (hs : ∀ i, i < n → A 51 i = sr 0 i ∧ A 52 i = sr 1 i ∧ A 53 i = sr 2 i) : Meets l hX5_agree k 144 144 [.ref 50, .int h, .int fm] F A R G (pP (agP sr h fm 0 n) F A R G) := by
  refine mm_start rfl (Nat.le_of_ble_eq_true rfl) (fun X hC => ?_)
  show WP hX5_agree X 144 0 [(0, .ref 50), (1, .int h), (2, .int fm)] [] F A R G
  refine wp_iconst (v := 0) dX5_agree_0 (by decide) ?_
  refine wp_istore_n [1, 2, 3, 0] (by decide) rfl rfl rfl dX5_agree_1 rfl ?_
  have lp : ∀ (nn : Nat) (i : Nat), (i ≤ n) → (agP sr h fm 0 n = agP sr h fm i (n - i)) → n - i < nn → WP hX5_agree X 144 2 [(0, .ref 50), (1, .int h), (2, .int fm), (3, .int (nI i))] [] F A R G := by
    intro nn
    induction nn with
    | zero => intro i _ _ hm; exact absurd hm (Nat.not_lt_zero _)
    | succ nn ih_lp =>
      intro i hi hv hm_lp
      refine wp_iload_n dX5_agree_2 rfl 3 rfl ?_
      refine wp_aload_n dX5_agree_3 rfl 0 rfl ?_
      refine wp_getI fX5_21 rfl (rfl) (by decide) dX5_agree_4 ?_
      refine wp_top (x' := nI n) (hl) ?_
      refine wp_icmp_ge 56 dX5_agree_7 (by decide) (fun c1 => ?_) (fun c1 => ?_)
      · replace c1 := (ix_le (a := n) (b := i) (rfl) (rfl) (by omega) (by omega)).mp c1
        refine wp_iconst (v := 1) dX5_agree_56 (by decide) ?_
        exact wp_iret hC rfl rfl dX5_agree_57 (pP_ok (by rw [hv, show n - i = 0 by omega]; rfl))
      · replace c1 := mt (ix_le (a := n) (b := i) (rfl) (rfl) (by omega) (by omega)).mpr c1
        refine wp_aload_n dX5_agree_10 rfl 0 rfl ?_
        refine wp_getO (q := 52) fX5_15 hR rfl (rfl) (by decide) (by decide) rfl dX5_agree_11 ?_
        refine wp_iload_n dX5_agree_14 rfl 3 rfl ?_
        refine wp_iald i (rfl) (rfl) (by decide) ((show i < 6 from by omega)) dX5_agree_15 ?_
        refine wp_top (x' := sr 1 i) ((hs i (by omega)).2.1) ?_
        refine wp_iload_n dX5_agree_16 rfl 2 rfl ?_
        refine wp_icmp_lt 24 dX5_agree_17 (by decide) (fun c2 => ?_) (fun c2 => ?_)
        · refine wp_iconst (v := 0) dX5_agree_24 (by decide) ?_
          refine wp_istore [1, 2, 3, 4, 0] (by decide) rfl rfl rfl dX5_agree_25 ?_
          refine wp_aload_n dX5_agree_27 rfl 0 rfl ?_
          refine wp_getO (q := 51) fX5_9 hR rfl (rfl) (by decide) (by decide) rfl dX5_agree_28 ?_
          refine wp_iload_n dX5_agree_31 rfl 3 rfl ?_
          refine wp_iald i (rfl) (rfl) (by decide) ((show i < 6 from by omega)) dX5_agree_32 ?_
          refine wp_top (x' := sr 0 i) ((hs i (by omega)).1) ?_
          refine wp_iload_n dX5_agree_33 rfl 1 rfl ?_
          refine wp_icmp_ne 50 dX5_agree_34 (by decide) (fun c3 => ?_) (fun c3 => ?_)
          · refine wp_iinc (v := nI (i + 1)) 3 rfl (by exact nI_1 i) [1, 2, 3, 0, 5] (by decide) rfl rfl rfl dX5_agree_50 ?_
            refine wp_goto 2 dX5_agree_53 (by decide) ?_
            refine wp_lv [0, 1, 2, 3] rfl ?_
            exact ih_lp (i + 1) (by omega) (by rw [hv, show n - i = n - (i + 1) + 1 by omega, agP]; simp [*]) (by omega)
          · refine wp_iload dX5_agree_37 4 rfl ?_
            refine wp_aload_n dX5_agree_39 rfl 0 rfl ?_
            refine wp_getO (q := 53) fX5_18 hR rfl (rfl) (by decide) (by decide) rfl dX5_agree_40 ?_
            refine wp_iload_n dX5_agree_43 rfl 3 rfl ?_
            refine wp_iald i (rfl) (rfl) (by decide) ((show i < 6 from by omega)) dX5_agree_44 ?_
            refine wp_top (x' := sr 2 i) ((hs i (by omega)).2.2) ?_
            refine wp_icmp_eq 50 dX5_agree_45 (by decide) (fun c4 => ?_) (fun c4 => ?_)
            · refine wp_iinc (v := nI (i + 1)) 3 rfl (by exact nI_1 i) [1, 2, 3, 0, 5] (by decide) rfl rfl rfl dX5_agree_50 ?_
              refine wp_goto 2 dX5_agree_53 (by decide) ?_
              refine wp_lv [0, 1, 2, 3] rfl ?_
              exact ih_lp (i + 1) (by omega) (by rw [hv, show n - i = n - (i + 1) + 1 by omega, agP]; simp [*]) (by omega)
            · refine wp_iconst (v := 0) dX5_agree_48 (by decide) ?_
              exact wp_iret hC rfl rfl dX5_agree_49 (pP_ok (by rw [hv, show n - i = n - (i + 1) + 1 by omega, agP]; simp [*]))
        · refine wp_iconst (v := 1) dX5_agree_20 (by decide) ?_
          refine wp_goto 25 dX5_agree_21 (by decide) ?_
          refine wp_istore [1, 2, 3, 4, 0] (by decide) rfl rfl rfl dX5_agree_25 ?_
          refine wp_aload_n dX5_agree_27 rfl 0 rfl ?_
          refine wp_getO (q := 51) fX5_9 hR rfl (rfl) (by decide) (by decide) rfl dX5_agree_28 ?_
          refine wp_iload_n dX5_agree_31 rfl 3 rfl ?_
          refine wp_iald i (rfl) (rfl) (by decide) ((show i < 6 from by omega)) dX5_agree_32 ?_
          refine wp_top (x' := sr 0 i) ((hs i (by omega)).1) ?_
          refine wp_iload_n dX5_agree_33 rfl 1 rfl ?_
          refine wp_icmp_ne 50 dX5_agree_34 (by decide) (fun c5 => ?_) (fun c5 => ?_)
          · refine wp_iinc (v := nI (i + 1)) 3 rfl (by exact nI_1 i) [1, 2, 3, 0, 5] (by decide) rfl rfl rfl dX5_agree_50 ?_
            refine wp_goto 2 dX5_agree_53 (by decide) ?_
            refine wp_lv [0, 1, 2, 3] rfl ?_
            exact ih_lp (i + 1) (by omega) (by rw [hv, show n - i = n - (i + 1) + 1 by omega, agP]; simp [*]) (by omega)
          · refine wp_iload dX5_agree_37 4 rfl ?_
            refine wp_aload_n dX5_agree_39 rfl 0 rfl ?_
            refine wp_getO (q := 53) fX5_18 hR rfl (rfl) (by decide) (by decide) rfl dX5_agree_40 ?_
            refine wp_iload_n dX5_agree_43 rfl 3 rfl ?_
            refine wp_iald i (rfl) (rfl) (by decide) ((show i < 6 from by omega)) dX5_agree_44 ?_
            refine wp_top (x' := sr 2 i) ((hs i (by omega)).2.2) ?_
            refine wp_icmp_eq 50 dX5_agree_45 (by decide) (fun c6 => ?_) (fun c6 => ?_)
            · refine wp_iinc (v := nI (i + 1)) 3 rfl (by exact nI_1 i) [1, 2, 3, 0, 5] (by decide) rfl rfl rfl dX5_agree_50 ?_
              refine wp_goto 2 dX5_agree_53 (by decide) ?_
              refine wp_lv [0, 1, 2, 3] rfl ?_
              exact ih_lp (i + 1) (by omega) (by rw [hv, show n - i = n - (i + 1) + 1 by omega, agP]; simp [*]) (by omega)
            · refine wp_iconst (v := 0) dX5_agree_48 (by decide) ?_
              exact wp_iret hC rfl rfl dX5_agree_49 (pP_ok (by rw [hv, show n - i = n - (i + 1) + 1 by omega, agP]; simp [*]))
  exact lp (n + 1) 0 (Nat.zero_le _) rfl (by omega)

set_option maxRecDepth 100000 in
set_option maxHeartbeats 600000 in
theorem c_X5_holdsOf (l : Launch) (k : Nat) (F A : mmF) (R : mmR) (G : mmG) (h bn : Int32) (n : Nat) (sr : Nat → Nat → Int32) (hR : mm_RL R) (hn : n ≤ 6) (hl : F 50 3 = nI n) (hs : ∀ i, i < n → A 51 i = sr 0 i ∧ A 52 i = sr 1 i ∧ A 53 i = sr 2 i) : Meets l hX5_holdsOf (k + 1) 144 144 [.ref 50, .int h, .int bn] F A R G (pP (hoP sr n h bn) F A R G) := by
  refine mm_start rfl (Nat.le_of_ble_eq_true rfl) (fun X hC => ?_)
  show WP hX5_holdsOf X 144 0 [(0, .ref 50), (1, .int h), (2, .int bn)] [] F A R G
  refine wp_iconst (v := 0) dX5_holdsOf_0 (by decide) ?_
  refine wp_istore_n [1, 2, 3, 0] (by decide) rfl rfl rfl dX5_holdsOf_1 rfl ?_
  refine wp_iconst (v := 1) dX5_holdsOf_2 (by decide) ?_
  refine wp_istore [1, 2, 3, 4, 0] (by decide) rfl rfl rfl dX5_holdsOf_3 ?_
  have lp : ∀ (nn : Nat) (i : Nat) (q : Int32), (1 ≤ i ∧ i ≤ 10) → (hoP sr n h bn = (List.range' i (10 - i)).foldl (fun b v => if agP sr h (nI v + bn) 0 n = 0 then b else b ||| sh v) q) → 10 - i < nn → WP hX5_holdsOf X 144 5 [(0, .ref 50), (1, .int h), (2, .int bn), (3, .int q), (4, .int (nI i))] [] F A R G := by
    intro nn
    induction nn with
    | zero => intro i q _ _ hm; exact absurd hm (Nat.not_lt_zero _)
    | succ nn ih_lp =>
      intro i q hi hv hm_lp
      refine wp_iload dX5_holdsOf_5 4 rfl ?_
      refine wp_bipush (v := 9) dX5_holdsOf_7 (by decide) ?_
      refine wp_icmp_gt 37 dX5_holdsOf_9 (by decide) (fun c1 => ?_) (fun c1 => ?_)
      · replace c1 := (ix_lt (a := 9) (b := i) (rfl) (rfl) (by omega) (by omega)).mp c1
        refine wp_iload_n dX5_holdsOf_37 rfl 3 rfl ?_
        exact wp_iret hC rfl rfl dX5_holdsOf_38 (pP_ok (by rw [hv, show 10 - i = 0 by omega]; rfl))
      · replace c1 := mt (ix_lt (a := 9) (b := i) (rfl) (rfl) (by omega) (by omega)).mpr c1
        refine wp_aload_n dX5_holdsOf_12 rfl 0 rfl ?_
        refine wp_iload_n dX5_holdsOf_13 rfl 1 rfl ?_
        refine wp_iload dX5_holdsOf_14 4 rfl ?_
        refine wp_iload_n dX5_holdsOf_16 rfl 2 rfl ?_
        refine wp_iadd dX5_holdsOf_17 ?_
        refine wp_callP (mm_siteV (av := [.int h, .int ((nI i) + bn)]) hC lX5_25 (rfl) (by decide) ⟨_, rfl, rfl⟩ rfl rfl (Nat.le_of_ble_eq_true rfl) dX5_holdsOf_18) (c_X5_agree l k _ _ _ _ _ _ n sr hR hn hl hs) (by omega) (by decide) ?_
        refine wp_if_eq 31 dX5_holdsOf_21 (by decide) (fun c2 => ?_) (fun c2 => ?_)
        · refine wp_iinc (v := nI (i + 1)) 4 rfl (by exact nI_1 i) [1, 2, 3, 4, 0] (by decide) rfl rfl rfl dX5_holdsOf_31 ?_
          refine wp_goto 5 dX5_holdsOf_34 (by decide) ?_
          exact ih_lp (i + 1) _ (by omega) (by rw [hv, show 10 - i = 10 - (i + 1) + 1 by omega, List.range'_succ, List.foldl_cons]; simp [*, sh]) (by omega)
        · refine wp_iload_n dX5_holdsOf_24 rfl 3 rfl ?_
          refine wp_iconst (v := 1) dX5_holdsOf_25 (by decide) ?_
          refine wp_iload dX5_holdsOf_26 4 rfl ?_
          refine wp_ishl dX5_holdsOf_28 ?_
          refine wp_ior dX5_holdsOf_29 ?_
          refine wp_istore_n [1, 2, 3, 0, 5] (by decide) rfl rfl rfl dX5_holdsOf_30 rfl ?_
          refine wp_iinc (v := nI (i + 1)) 4 rfl (by exact nI_1 i) [1, 2, 3, 4, 0] (by decide) rfl rfl rfl dX5_holdsOf_31 ?_
          refine wp_goto 5 dX5_holdsOf_34 (by decide) ?_
          exact ih_lp (i + 1) _ (by omega) (by rw [hv, show 10 - i = 10 - (i + 1) + 1 by omega, List.range'_succ, List.foldl_cons]; simp [*, sh]) (by omega)
  exact lp (10 + 1) 1 0 (by decide) rfl (by omega)

