def isIn (h n : Int32) : Int32 := if h < 0 then 0 else if n ≤ h then 0 else 1
def upP (d h : Int32) : Int32 := if bt d h = 0 then 1 else 0
def firmP (hold kind nailed halved hits h : Int32) : Int32 :=
  if (1 : Int32) < (if kind = 2 then (if bt halved h = 1 then (hold + 4 * bt nailed h) / 2 else hold + 4 * bt nailed h) - hits else (if bt halved h = 1 then (hold + 4 * bt nailed h) / 2 else hold + 4 * bt nailed h)) then (if kind = 2 then (if bt halved h = 1 then (hold + 4 * bt nailed h) / 2 else hold + 4 * bt nailed h) - hits else (if bt halved h = 1 then (hold + 4 * bt nailed h) / 2 else hold + 4 * bt nailed h)) else 1
def forceP (force kind : Int32) : Int32 := force + (if kind = 3 then 2 else 0)
def driftP (kind wind : Int32) : Int32 := if kind = 1 then 0 else wind - 1
def astrayP (aim kind luck : Int32) : Int32 := if luck = 0 then 0 else if luck = 1 then (if kind = 2 then -(aim + (if kind = 3 then 1 else 0)) else aim + (if kind = 3 then 1 else 0)) else (if kind = 2 then aim + (if kind = 3 then 1 else 0) else -(aim + (if kind = 3 then 1 else 0)))
def landP (aim kind place luck wind : Int32) : Int32 := if isIn (place + astrayP aim kind luck + driftP kind wind) 8 = 0 then 8 else place + astrayP aim kind luck + driftP kind wind
def reachP (place kind wind : Int32) : Int32 := isIn (place - driftP kind wind) 8
theorem isIn_nar {h n : Int32} : narrow .boolean (.int (isIn h n)) = .int (isIn h n) := by
  unfold isIn; split
  · rfl
  · split <;> rfl
theorem upP_nar {d h : Int32} : narrow .boolean (.int (upP d h)) = .int (upP d h) := by
  unfold upP; split <;> rfl
theorem bs_bv (X : BitVec 32) (n : Nat) (hn : n < 32) : X &&& (1#32 <<< n) = 0#32 ↔ X.sshiftRight n &&& 1#32 = 0#32 := by
  rw [show (1#32 <<< n) = BitVec.twoPow 32 n from rfl, BitVec.and_twoPow, show X.sshiftRight n &&& 1#32 = X.sshiftRight n &&& BitVec.twoPow 32 0 from rfl, BitVec.and_twoPow]
  have h0 : ∀ m, m < 32 → ¬ BitVec.twoPow 32 m = 0#32 := by decide
  have h3 : (X.sshiftRight n).getLsbD 0 = X.getLsbD n := by
    rw [BitVec.getLsbD_sshiftRight]; simp [hn]
  rw [h3]
  cases X.getLsbD n
  · exact Iff.rfl
  · exact ⟨fun h => absurd h (h0 n hn), fun h => absurd h (h0 0 (by decide))⟩
theorem bs_eq (x s : Int32) (n : Nat) (hn : n < 32) (hs : s.toBitVec.smod 32 = BitVec.ofNat 32 n) : x &&& ((1 : Int32) <<< s) = 0 ↔ (x >>> s) &&& 1 = 0 := by
  rw [← Int32.toBitVec_inj, ← Int32.toBitVec_inj]
  simp only [Int32.toBitVec_and, Int32.toBitVec_shiftLeft, Int32.toBitVec_shiftRight, hs]
  have h1 : (BitVec.ofNat 32 n).toNat = n := by simp; omega
  have := bs_bv x.toBitVec n hn
  rw [← h1] at this
  exact this
theorem bs_nI : ∀ j, j < 32 → (nI j).toBitVec.smod 32 = BitVec.ofNat 32 j := by decide +kernel
/-- the bit at the place y, seen under its own mask -/
theorem bt_sh {x y : Int32} : x &&& ((1 : Int32) <<< (y &&& 31)) = 0 ↔ bt x y = 0 := by
  obtain ⟨j, h1, h2⟩ := pk_andE y (m := 31) 5 rfl
  unfold bt
  rw [h2]
  exact bs_eq x (nI j) j h1 (bs_nI j h1)
set_option maxRecDepth 100000 in
set_option maxHeartbeats 600000 in
theorem c_X9_bit (l : Launch) (k : Nat) (F A : mmF) (R : mmR) (G : mmG) (x y : Int32) : Meets l hX9_bit k 144 144 [.int x, .int y] F A R G (pP (bt x y) F A R G) := by
  refine mm_start rfl (Nat.le_of_ble_eq_true rfl) (fun X hC => ?_)
  show WP hX9_bit X 144 0 [(0, .int x), (1, .int y)] [] F A R G
  refine wp_iload_n dX9_bit_0 rfl 0 rfl ?_
  refine wp_iload_n dX9_bit_1 rfl 1 rfl ?_
  refine wp_ishr dX9_bit_2 ?_
  refine wp_iconst (v := 1) dX9_bit_3 (by decide) ?_
  refine wp_iand dX9_bit_4 ?_
  exact wp_iret hC rfl rfl dX9_bit_5 (pP_ok rfl)

set_option maxRecDepth 100000 in
set_option maxHeartbeats 600000 in
theorem c_X9_isPlace (l : Launch) (k : Nat) (F A : mmF) (R : mmR) (G : mmG) (x : Int32) : Meets l hX9_isPlace k 144 144 [.int x] F A R G (pP (isIn x 8) F A R G) := by
  refine mm_start rfl (Nat.le_of_ble_eq_true rfl) (fun X hC => ?_)
  show WP hX9_isPlace X 144 0 [(0, .int x)] [] F A R G
  refine wp_iload_n dX9_isPlace_0 rfl 0 rfl ?_
  refine wp_if_lt 14 dX9_isPlace_1 (by decide) (fun c1 => ?_) (fun c1 => ?_)
  · refine wp_iconst (v := 0) dX9_isPlace_14 (by decide) ?_
    exact wp_iret hC rfl rfl dX9_isPlace_15 (pP_ok (by simp [isIn, *]))
  · refine wp_iload_n dX9_isPlace_4 rfl 0 rfl ?_
    refine wp_bipush (v := 8) dX9_isPlace_5 (by decide) ?_
    refine wp_icmp_ge 14 dX9_isPlace_7 (by decide) (fun c2 => ?_) (fun c2 => ?_)
    · refine wp_iconst (v := 0) dX9_isPlace_14 (by decide) ?_
      exact wp_iret hC rfl rfl dX9_isPlace_15 (pP_ok (by simp [isIn, *]))
    · refine wp_iconst (v := 1) dX9_isPlace_10 (by decide) ?_
      refine wp_goto 15 dX9_isPlace_11 (by decide) ?_
      exact wp_iret hC rfl rfl dX9_isPlace_15 (pP_ok (by simp [isIn, *]))

set_option maxRecDepth 100000 in
set_option maxHeartbeats 600000 in
theorem c_X7_isUp (l : Launch) (k : Nat) (F A : mmF) (R : mmR) (G : mmG) (a : Nat) (h : Int32) (ha : mm_K a = 7) : Meets l hX7_isUp (k + 1) 144 144 [.ref a, .int h] F A R G (pP (upP (F a 2) h) F A R G) := by
  refine mm_start rfl (Nat.le_of_ble_eq_true rfl) (fun X hC => ?_)
  show WP hX7_isUp X 144 0 [(0, .ref a), (1, .int h)] [] F A R G
  refine wp_aload_n dX7_isUp_0 rfl 0 rfl ?_
  refine wp_getI fX7_18 rfl (ha) (st_l0 ha) dX7_isUp_1 ?_
  refine wp_iconst (v := 1) dX7_isUp_4 (by decide) ?_
  refine wp_iload_n dX7_isUp_5 rfl 1 rfl ?_
  refine wp_ishl dX7_isUp_6 ?_
  refine wp_iand dX7_isUp_7 ?_
  refine wp_if_ne 15 dX7_isUp_8 (by decide) (fun c1 => ?_) (fun c1 => ?_)
  · refine wp_iconst (v := 0) dX7_isUp_15 (by decide) ?_
    exact wp_iret hC rfl rfl dX7_isUp_16 (pP_ok (by rw [bt_sh] at c1; simp [upP, c1]))
  · refine wp_iconst (v := 1) dX7_isUp_11 (by decide) ?_
    refine wp_goto 16 dX7_isUp_12 (by decide) ?_
    exact wp_iret hC rfl rfl dX7_isUp_16 (pP_ok (by rw [bt_sh] at c1; simp [upP, c1]))

set_option maxRecDepth 100000 in
set_option maxHeartbeats 600000 in
theorem c_X1_isHusk (l : Launch) (k : Nat) (F A : mmF) (R : mmR) (G : mmG) (b : Nat) (h : Int32) (hb : mm_K b = 1) : Meets l hX1_isHusk k 144 144 [.ref b, .int h] F A R G (pP (isIn h (F b 9)) F A R G) := by
  refine mm_start rfl (Nat.le_of_ble_eq_true rfl) (fun X hC => ?_)
  show WP hX1_isHusk X 144 0 [(0, .ref b), (1, .int h)] [] F A R G
  refine wp_iload_n dX1_isHusk_0 rfl 1 rfl ?_
  refine wp_if_lt 16 dX1_isHusk_1 (by decide) (fun c1 => ?_) (fun c1 => ?_)
  · refine wp_iconst (v := 0) dX1_isHusk_16 (by decide) ?_
    exact wp_iret hC rfl rfl dX1_isHusk_17 (pP_ok (by simp [isIn, *]))
  · refine wp_iload_n dX1_isHusk_4 rfl 1 rfl ?_
    refine wp_aload_n dX1_isHusk_5 rfl 0 rfl ?_
    refine wp_getI fX1_39 rfl (hb) (bo_l0 hb) dX1_isHusk_6 ?_
    refine wp_icmp_ge 16 dX1_isHusk_9 (by decide) (fun c2 => ?_) (fun c2 => ?_)
    · refine wp_iconst (v := 0) dX1_isHusk_16 (by decide) ?_
      exact wp_iret hC rfl rfl dX1_isHusk_17 (pP_ok (by simp [isIn, *]))
    · refine wp_iconst (v := 1) dX1_isHusk_12 (by decide) ?_
      refine wp_goto 17 dX1_isHusk_13 (by decide) ?_
      exact wp_iret hC rfl rfl dX1_isHusk_17 (pP_ok (by simp [isIn, *]))

set_option maxRecDepth 100000 in
set_option maxHeartbeats 600000 in
theorem c_X1_isThrower (l : Launch) (k : Nat) (F A : mmF) (R : mmR) (G : mmG) (b : Nat) (h : Int32) (hb : mm_K b = 1) : Meets l hX1_isThrower k 144 144 [.ref b, .int h] F A R G (pP (isIn h (F b 10)) F A R G) := by
  refine mm_start rfl (Nat.le_of_ble_eq_true rfl) (fun X hC => ?_)
  show WP hX1_isThrower X 144 0 [(0, .ref b), (1, .int h)] [] F A R G
  refine wp_iload_n dX1_isThrower_0 rfl 1 rfl ?_
  refine wp_if_lt 16 dX1_isThrower_1 (by decide) (fun c1 => ?_) (fun c1 => ?_)
  · refine wp_iconst (v := 0) dX1_isThrower_16 (by decide) ?_
    exact wp_iret hC rfl rfl dX1_isThrower_17 (pP_ok (by simp [isIn, *]))
  · refine wp_iload_n dX1_isThrower_4 rfl 1 rfl ?_
    refine wp_aload_n dX1_isThrower_5 rfl 0 rfl ?_
    refine wp_getI fX1_43 rfl (hb) (bo_l0 hb) dX1_isThrower_6 ?_
    refine wp_icmp_ge 16 dX1_isThrower_9 (by decide) (fun c2 => ?_) (fun c2 => ?_)
    · refine wp_iconst (v := 0) dX1_isThrower_16 (by decide) ?_
      exact wp_iret hC rfl rfl dX1_isThrower_17 (pP_ok (by simp [isIn, *]))
    · refine wp_iconst (v := 1) dX1_isThrower_12 (by decide) ?_
      refine wp_goto 17 dX1_isThrower_13 (by decide) ?_
      exact wp_iret hC rfl rfl dX1_isThrower_17 (pP_ok (by simp [isIn, *]))

set_option maxRecDepth 100000 in
set_option maxHeartbeats 600000 in
theorem c_X1_loosensBy (l : Launch) (k : Nat) (F A : mmF) (R : mmR) (G : mmG) (b t : Nat) (hR : mm_RL R) (hb : mm_K b = 1) (ht : t < 4) : Meets l hX1_loosensBy k 144 144 [.ref b, .int (nI t)] F A R G (pP (forceP (A (b + 5) t) (A (b + 6) t)) F A R G) := by
  refine mm_start rfl (Nat.le_of_ble_eq_true rfl) (fun X hC => ?_)
  show WP hX1_loosensBy X 144 0 [(0, .ref b), (1, .int (nI t))] [] F A R G
  refine wp_aload_n dX1_loosensBy_0 rfl 0 rfl ?_
  refine wp_getO (q := b + 5) fX1_24 hR rfl (hb) (bo_l0 hb) (by decide) rfl dX1_loosensBy_1 ?_
  refine wp_iload_n dX1_loosensBy_4 rfl 1 rfl ?_
  refine wp_iald t (rfl) (bo_k5 hb) (bo_l5 hb) (bo_i5 hb (by omega)) dX1_loosensBy_5 ?_
  refine wp_aload_n dX1_loosensBy_6 rfl 0 rfl ?_
  refine wp_getO (q := b + 6) fX1_27 hR rfl (hb) (bo_l0 hb) (by decide) rfl dX1_loosensBy_7 ?_
  refine wp_iload_n dX1_loosensBy_10 rfl 1 rfl ?_
  refine wp_iald t (rfl) (bo_k6 hb) (bo_l6 hb) (bo_i6 hb (by omega)) dX1_loosensBy_11 ?_
  refine wp_iconst (v := 3) dX1_loosensBy_12 (by decide) ?_
  refine wp_icmp_ne 20 dX1_loosensBy_13 (by decide) (fun c1 => ?_) (fun c1 => ?_)
  · refine wp_iconst (v := 0) dX1_loosensBy_20 (by decide) ?_
    refine wp_iadd dX1_loosensBy_21 ?_
    exact wp_iret hC rfl rfl dX1_loosensBy_22 (pP_ok (by simp [forceP, *]))
  · refine wp_iconst (v := 2) dX1_loosensBy_16 (by decide) ?_
    refine wp_goto 21 dX1_loosensBy_17 (by decide) ?_
    refine wp_iadd dX1_loosensBy_21 ?_
    exact wp_iret hC rfl rfl dX1_loosensBy_22 (pP_ok (by simp [forceP, *]))

set_option maxRecDepth 100000 in
set_option maxHeartbeats 600000 in
theorem c_X1_drift (l : Launch) (k : Nat) (F A : mmF) (R : mmR) (G : mmG) (b t : Nat) (wd : Int32) (hR : mm_RL R) (hb : mm_K b = 1) (ht : t < 4) : Meets l hX1_drift k 144 144 [.ref b, .int (nI t), .int wd] F A R G (pP (driftP (A (b + 6) t) wd) F A R G) := by
  refine mm_start rfl (Nat.le_of_ble_eq_true rfl) (fun X hC => ?_)
  show WP hX1_drift X 144 0 [(0, .ref b), (1, .int (nI t)), (2, .int wd)] [] F A R G
  refine wp_aload_n dX1_drift_0 rfl 0 rfl ?_
  refine wp_getO (q := b + 6) fX1_27 hR rfl (hb) (bo_l0 hb) (by decide) rfl dX1_drift_1 ?_
  refine wp_iload_n dX1_drift_4 rfl 1 rfl ?_
  refine wp_iald t (rfl) (bo_k6 hb) (bo_l6 hb) (bo_i6 hb (by omega)) dX1_drift_5 ?_
  refine wp_iconst (v := 1) dX1_drift_6 (by decide) ?_
  refine wp_icmp_ne 14 dX1_drift_7 (by decide) (fun c1 => ?_) (fun c1 => ?_)
  · refine wp_iload_n dX1_drift_14 rfl 2 rfl ?_
    refine wp_iconst (v := 1) dX1_drift_15 (by decide) ?_
    refine wp_isub dX1_drift_16 ?_
    exact wp_iret hC rfl rfl dX1_drift_17 (pP_ok (by simp [driftP, *]))
  · refine wp_iconst (v := 0) dX1_drift_10 (by decide) ?_
    refine wp_goto 17 dX1_drift_11 (by decide) ?_
    exact wp_iret hC rfl rfl dX1_drift_17 (pP_ok (by simp [driftP, *]))

set_option maxRecDepth 100000 in
set_option maxHeartbeats 600000 in
theorem c_X1_astray (l : Launch) (k : Nat) (F A : mmF) (R : mmR) (G : mmG) (b t : Nat) (lk : Int32) (hR : mm_RL R) (hb : mm_K b = 1) (ht : t < 4) : Meets l hX1_astray k 144 144 [.ref b, .int (nI t), .int lk] F A R G (pP (astrayP (A (b + 4) t) (A (b + 6) t) lk) F A R G) := by
  refine mm_start rfl (Nat.le_of_ble_eq_true rfl) (fun X hC => ?_)
  show WP hX1_astray X 144 0 [(0, .ref b), (1, .int (nI t)), (2, .int lk)] [] F A R G
  refine wp_iload_n dX1_astray_0 rfl 2 rfl ?_
  refine wp_if_ne 6 dX1_astray_1 (by decide) (fun c1 => ?_) (fun c1 => ?_)
  · refine wp_aload_n dX1_astray_6 rfl 0 rfl ?_
    refine wp_getO (q := b + 4) fX1_21 hR rfl (hb) (bo_l0 hb) (by decide) rfl dX1_astray_7 ?_
    refine wp_iload_n dX1_astray_10 rfl 1 rfl ?_
    refine wp_iald t (rfl) (bo_k4 hb) (bo_l4 hb) (bo_i4 hb (by omega)) dX1_astray_11 ?_
    refine wp_aload_n dX1_astray_12 rfl 0 rfl ?_
    refine wp_getO (q := b + 6) fX1_27 hR rfl (hb) (bo_l0 hb) (by decide) rfl dX1_astray_13 ?_
    refine wp_iload_n dX1_astray_16 rfl 1 rfl ?_
    refine wp_iald t (rfl) (bo_k6 hb) (bo_l6 hb) (bo_i6 hb (by omega)) dX1_astray_17 ?_
    refine wp_iconst (v := 3) dX1_astray_18 (by decide) ?_
    refine wp_icmp_ne 26 dX1_astray_19 (by decide) (fun c2 => ?_) (fun c2 => ?_)
    · refine wp_iconst (v := 0) dX1_astray_26 (by decide) ?_
      refine wp_iadd dX1_astray_27 ?_
      refine wp_istore_n [1, 2, 3, 0] (by decide) rfl rfl rfl dX1_astray_28 rfl ?_
      refine wp_aload_n dX1_astray_29 rfl 0 rfl ?_
      refine wp_getO (q := b + 6) fX1_27 hR rfl (hb) (bo_l0 hb) (by decide) rfl dX1_astray_30 ?_
      refine wp_iload_n dX1_astray_33 rfl 1 rfl ?_
      refine wp_iald t (rfl) (bo_k6 hb) (bo_l6 hb) (bo_i6 hb (by omega)) dX1_astray_34 ?_
      refine wp_iconst (v := 2) dX1_astray_35 (by decide) ?_
      refine wp_icmp_ne 43 dX1_astray_36 (by decide) (fun c3 => ?_) (fun c3 => ?_)
      · refine wp_iconst (v := 0) dX1_astray_43 (by decide) ?_
        refine wp_istore [1, 2, 3, 4, 0] (by decide) rfl rfl rfl dX1_astray_44 ?_
        refine wp_iload_n dX1_astray_46 rfl 2 rfl ?_
        refine wp_iconst (v := 1) dX1_astray_47 (by decide) ?_
        refine wp_icmp_ne 55 dX1_astray_48 (by decide) (fun c4 => ?_) (fun c4 => ?_)
        · refine wp_iconst (v := 0) dX1_astray_55 (by decide) ?_
          refine wp_iload dX1_astray_56 4 rfl ?_
          refine wp_icmp_eq 65 dX1_astray_58 (by decide) (fun c5 => ?_) (fun c5 => ?_)
          · refine wp_iload_n dX1_astray_65 rfl 3 rfl ?_
            refine wp_ineg dX1_astray_66 ?_
            exact wp_iret hC rfl rfl dX1_astray_67 (pP_ok (by simp_all [astrayP]))
          · refine wp_iload_n dX1_astray_61 rfl 3 rfl ?_
            refine wp_goto 67 dX1_astray_62 (by decide) ?_
            exact wp_iret hC rfl rfl dX1_astray_67 (pP_ok (by simp_all [astrayP]))
        · refine wp_iconst (v := 1) dX1_astray_51 (by decide) ?_
          refine wp_goto 56 dX1_astray_52 (by decide) ?_
          refine wp_iload dX1_astray_56 4 rfl ?_
          refine wp_icmp_eq 65 dX1_astray_58 (by decide) (fun c6 => ?_) (fun c6 => ?_)
          · refine wp_iload_n dX1_astray_65 rfl 3 rfl ?_
            refine wp_ineg dX1_astray_66 ?_
            exact wp_iret hC rfl rfl dX1_astray_67 (pP_ok (by simp_all [astrayP]))
          · refine wp_iload_n dX1_astray_61 rfl 3 rfl ?_
            refine wp_goto 67 dX1_astray_62 (by decide) ?_
            exact wp_iret hC rfl rfl dX1_astray_67 (pP_ok (by simp_all [astrayP]))
      · refine wp_iconst (v := 1) dX1_astray_39 (by decide) ?_
        refine wp_goto 44 dX1_astray_40 (by decide) ?_
        refine wp_istore [1, 2, 3, 4, 0] (by decide) rfl rfl rfl dX1_astray_44 ?_
        refine wp_iload_n dX1_astray_46 rfl 2 rfl ?_
        refine wp_iconst (v := 1) dX1_astray_47 (by decide) ?_
        refine wp_icmp_ne 55 dX1_astray_48 (by decide) (fun c7 => ?_) (fun c7 => ?_)
        · refine wp_iconst (v := 0) dX1_astray_55 (by decide) ?_
          refine wp_iload dX1_astray_56 4 rfl ?_
          refine wp_icmp_eq 65 dX1_astray_58 (by decide) (fun c8 => ?_) (fun c8 => ?_)
          · refine wp_iload_n dX1_astray_65 rfl 3 rfl ?_
            refine wp_ineg dX1_astray_66 ?_
            exact wp_iret hC rfl rfl dX1_astray_67 (pP_ok (by simp_all [astrayP]))
          · refine wp_iload_n dX1_astray_61 rfl 3 rfl ?_
            refine wp_goto 67 dX1_astray_62 (by decide) ?_
            exact wp_iret hC rfl rfl dX1_astray_67 (pP_ok (by simp_all [astrayP]))
        · refine wp_iconst (v := 1) dX1_astray_51 (by decide) ?_
          refine wp_goto 56 dX1_astray_52 (by decide) ?_
          refine wp_iload dX1_astray_56 4 rfl ?_
          refine wp_icmp_eq 65 dX1_astray_58 (by decide) (fun c9 => ?_) (fun c9 => ?_)
          · refine wp_iload_n dX1_astray_65 rfl 3 rfl ?_
            refine wp_ineg dX1_astray_66 ?_
            exact wp_iret hC rfl rfl dX1_astray_67 (pP_ok (by simp_all [astrayP]))
          · refine wp_iload_n dX1_astray_61 rfl 3 rfl ?_
            refine wp_goto 67 dX1_astray_62 (by decide) ?_
            exact wp_iret hC rfl rfl dX1_astray_67 (pP_ok (by simp_all [astrayP]))
    · refine wp_iconst (v := 1) dX1_astray_22 (by decide) ?_
      refine wp_goto 27 dX1_astray_23 (by decide) ?_
      refine wp_iadd dX1_astray_27 ?_
      refine wp_istore_n [1, 2, 3, 0] (by decide) rfl rfl rfl dX1_astray_28 rfl ?_
      refine wp_aload_n dX1_astray_29 rfl 0 rfl ?_
      refine wp_getO (q := b + 6) fX1_27 hR rfl (hb) (bo_l0 hb) (by decide) rfl dX1_astray_30 ?_
      refine wp_iload_n dX1_astray_33 rfl 1 rfl ?_
      refine wp_iald t (rfl) (bo_k6 hb) (bo_l6 hb) (bo_i6 hb (by omega)) dX1_astray_34 ?_
      refine wp_iconst (v := 2) dX1_astray_35 (by decide) ?_
      refine wp_icmp_ne 43 dX1_astray_36 (by decide) (fun c10 => ?_) (fun c10 => ?_)
      · refine wp_iconst (v := 0) dX1_astray_43 (by decide) ?_
        refine wp_istore [1, 2, 3, 4, 0] (by decide) rfl rfl rfl dX1_astray_44 ?_
        refine wp_iload_n dX1_astray_46 rfl 2 rfl ?_
        refine wp_iconst (v := 1) dX1_astray_47 (by decide) ?_
        refine wp_icmp_ne 55 dX1_astray_48 (by decide) (fun c11 => ?_) (fun c11 => ?_)
        · refine wp_iconst (v := 0) dX1_astray_55 (by decide) ?_
          refine wp_iload dX1_astray_56 4 rfl ?_
          refine wp_icmp_eq 65 dX1_astray_58 (by decide) (fun c12 => ?_) (fun c12 => ?_)
          · refine wp_iload_n dX1_astray_65 rfl 3 rfl ?_
            refine wp_ineg dX1_astray_66 ?_
            exact wp_iret hC rfl rfl dX1_astray_67 (pP_ok (by simp_all [astrayP]))
          · refine wp_iload_n dX1_astray_61 rfl 3 rfl ?_
            refine wp_goto 67 dX1_astray_62 (by decide) ?_
            exact wp_iret hC rfl rfl dX1_astray_67 (pP_ok (by simp_all [astrayP]))
        · refine wp_iconst (v := 1) dX1_astray_51 (by decide) ?_
          refine wp_goto 56 dX1_astray_52 (by decide) ?_
          refine wp_iload dX1_astray_56 4 rfl ?_
          refine wp_icmp_eq 65 dX1_astray_58 (by decide) (fun c13 => ?_) (fun c13 => ?_)
          · refine wp_iload_n dX1_astray_65 rfl 3 rfl ?_
            refine wp_ineg dX1_astray_66 ?_
            exact wp_iret hC rfl rfl dX1_astray_67 (pP_ok (by simp_all [astrayP]))
          · refine wp_iload_n dX1_astray_61 rfl 3 rfl ?_
            refine wp_goto 67 dX1_astray_62 (by decide) ?_
            exact wp_iret hC rfl rfl dX1_astray_67 (pP_ok (by simp_all [astrayP]))
      · refine wp_iconst (v := 1) dX1_astray_39 (by decide) ?_
        refine wp_goto 44 dX1_astray_40 (by decide) ?_
        refine wp_istore [1, 2, 3, 4, 0] (by decide) rfl rfl rfl dX1_astray_44 ?_
        refine wp_iload_n dX1_astray_46 rfl 2 rfl ?_
        refine wp_iconst (v := 1) dX1_astray_47 (by decide) ?_
        refine wp_icmp_ne 55 dX1_astray_48 (by decide) (fun c14 => ?_) (fun c14 => ?_)
        · refine wp_iconst (v := 0) dX1_astray_55 (by decide) ?_
          refine wp_iload dX1_astray_56 4 rfl ?_
          refine wp_icmp_eq 65 dX1_astray_58 (by decide) (fun c15 => ?_) (fun c15 => ?_)
          · refine wp_iload_n dX1_astray_65 rfl 3 rfl ?_
            refine wp_ineg dX1_astray_66 ?_
            exact wp_iret hC rfl rfl dX1_astray_67 (pP_ok (by simp_all [astrayP]))
          · refine wp_iload_n dX1_astray_61 rfl 3 rfl ?_
            refine wp_goto 67 dX1_astray_62 (by decide) ?_
            exact wp_iret hC rfl rfl dX1_astray_67 (pP_ok (by simp_all [astrayP]))
        · refine wp_iconst (v := 1) dX1_astray_51 (by decide) ?_
          refine wp_goto 56 dX1_astray_52 (by decide) ?_
          refine wp_iload dX1_astray_56 4 rfl ?_
          refine wp_icmp_eq 65 dX1_astray_58 (by decide) (fun c16 => ?_) (fun c16 => ?_)
          · refine wp_iload_n dX1_astray_65 rfl 3 rfl ?_
            refine wp_ineg dX1_astray_66 ?_
            exact wp_iret hC rfl rfl dX1_astray_67 (pP_ok (by simp_all [astrayP]))
          · refine wp_iload_n dX1_astray_61 rfl 3 rfl ?_
            refine wp_goto 67 dX1_astray_62 (by decide) ?_
            exact wp_iret hC rfl rfl dX1_astray_67 (pP_ok (by simp_all [astrayP]))
  · refine wp_iconst (v := 0) dX1_astray_4 (by decide) ?_
    exact wp_iret hC rfl rfl dX1_astray_5 (pP_ok (by simp_all [astrayP]))

set_option maxRecDepth 100000 in
set_option maxHeartbeats 600000 in
theorem c_X1_landing (l : Launch) (k : Nat) (F A : mmF) (R : mmR) (G : mmG) (b t : Nat) (pl lk wd : Int32) (hR : mm_RL R) (hb : mm_K b = 1) (ht : t < 4) : Meets l hX1_landing (k + 1) 144 144 [.ref b, .int (nI t), .int pl, .int lk, .int wd] F A R G (pP (landP (A (b + 4) t) (A (b + 6) t) pl lk wd) F A R G) := by
  refine mm_start rfl (Nat.le_of_ble_eq_true rfl) (fun X hC => ?_)
  show WP hX1_landing X 144 0 [(0, .ref b), (1, .int (nI t)), (2, .int pl), (3, .int lk), (4, .int wd)] [] F A R G
  refine wp_iload_n dX1_landing_0 rfl 2 rfl ?_
  refine wp_aload_n dX1_landing_1 rfl 0 rfl ?_
  refine wp_iload_n dX1_landing_2 rfl 1 rfl ?_
  refine wp_iload_n dX1_landing_3 rfl 3 rfl ?_
  refine wp_callP (mm_siteV (av := [.int (nI t), .int lk]) hC lX1_84 (hb) (bo_l0 hb) ⟨_, rfl, rfl⟩ rfl rfl (Nat.le_of_ble_eq_true rfl) dX1_landing_4) (c_X1_astray l k _ _ _ _ _ _ _ hR (hb) (by omega)) (by omega) (by decide) ?_
  refine wp_iadd dX1_landing_7 ?_
  refine wp_aload_n dX1_landing_8 rfl 0 rfl ?_
  refine wp_iload_n dX1_landing_9 rfl 1 rfl ?_
  refine wp_iload dX1_landing_10 4 rfl ?_
  refine wp_callP (mm_siteV (av := [.int (nI t), .int wd]) hC lX1_88 (hb) (bo_l0 hb) ⟨_, rfl, rfl⟩ rfl rfl (Nat.le_of_ble_eq_true rfl) dX1_landing_12) (c_X1_drift l k _ _ _ _ _ _ _ hR (hb) (by omega)) (by omega) (by decide) ?_
  refine wp_iadd dX1_landing_15 ?_
  refine wp_istore [1, 2, 3, 4, 5, 0] (by decide) rfl rfl rfl dX1_landing_16 ?_
  refine wp_iload dX1_landing_18 5 rfl ?_
  refine wp_callP (mm_siteSN (av := [.int ((pl + (astrayP (A (b + 4) t) (A (b + 6) t) lk)) + (driftP (A (b + 6) t) wd))]) hC lX1_91 rfl rfl (Nat.le_of_ble_eq_true rfl) dX1_landing_20) (c_X9_isPlace l k _ _ _ _ _) (by omega) (by decide) ?_
  refine wp_if_eq 31 dX1_landing_23 (by decide) (fun c1 => ?_) (fun c1 => ?_)
  · refine wp_bipush (v := 8) dX1_landing_31 (by decide) ?_
    exact wp_iret hC rfl rfl dX1_landing_33 (pP_ok (by simp [landP, *]))
  · refine wp_iload dX1_landing_26 5 rfl ?_
    refine wp_goto 33 dX1_landing_28 (by decide) ?_
    exact wp_iret hC rfl rfl dX1_landing_33 (pP_ok (by simp [landP, *]))

set_option maxRecDepth 100000 in
set_option maxHeartbeats 600000 in
theorem c_X1_reaches (l : Launch) (k : Nat) (F A : mmF) (R : mmR) (G : mmG) (b t h : Nat) (wd : Int32) (hR : mm_RL R) (hb : mm_K b = 1) (ht : t < 4) (hh : h < 5) : Meets l hX1_reaches (k + 1) 144 144 [.ref b, .int (nI t), .int (nI h), .int wd] F A R G (pP (reachP (A (b + 1) h) (A (b + 6) t) wd) F A R G) := by
  refine mm_start rfl (Nat.le_of_ble_eq_true rfl) (fun X hC => ?_)
  show WP hX1_reaches X 144 0 [(0, .ref b), (1, .int (nI t)), (2, .int (nI h)), (3, .int wd)] [] F A R G
  refine wp_aload_n dX1_reaches_0 rfl 0 rfl ?_
  refine wp_getO (q := b + 1) fX1_9 hR rfl (hb) (bo_l0 hb) (by decide) rfl dX1_reaches_1 ?_
  refine wp_iload_n dX1_reaches_4 rfl 2 rfl ?_
  refine wp_iald h (rfl) (bo_k1 hb) (bo_l1 hb) (bo_i1 hb (by omega)) dX1_reaches_5 ?_
  refine wp_aload_n dX1_reaches_6 rfl 0 rfl ?_
  refine wp_iload_n dX1_reaches_7 rfl 1 rfl ?_
  refine wp_iload_n dX1_reaches_8 rfl 3 rfl ?_
  refine wp_callP (mm_siteV (av := [.int (nI t), .int wd]) hC lX1_88 (hb) (bo_l0 hb) ⟨_, rfl, rfl⟩ rfl rfl (Nat.le_of_ble_eq_true rfl) dX1_reaches_9) (c_X1_drift l k _ _ _ _ _ _ _ hR (hb) (by omega)) (by omega) (by decide) ?_
  refine wp_isub dX1_reaches_12 ?_
  refine wp_callP (mm_siteSN (av := [.int ((A (b + 1) h) - (driftP (A (b + 6) t) wd))]) hC lX1_91 rfl rfl (Nat.le_of_ble_eq_true rfl) dX1_reaches_13) (c_X9_isPlace l k _ _ _ _ _) (by omega) (by decide) ?_
  exact wp_iret hC rfl isIn_nar dX1_reaches_16 (pP_ok rfl)

set_option maxRecDepth 100000 in
set_option maxHeartbeats 600000 in
theorem c_X7_firmness (l : Launch) (k : Nat) (F A : mmF) (R : mmR) (G : mmG) (a b h : Nat) (hR : mm_RL R) (ha : mm_K a = 7) (hb : mm_K b = 1) (hh : h < 5) : Meets l hX7_firmness (k + 1) 144 144 [.ref a, .ref b, .int (nI h)] F A R G (pP (firmP (A (b + 2) h) (A (b + 3) h) (F a 4) (F a 3) (A (a + 2) h) (nI h)) F A R G) := by
  refine mm_start rfl (Nat.le_of_ble_eq_true rfl) (fun X hC => ?_)
  show WP hX7_firmness X 144 0 [(0, .ref a), (1, .ref b), (2, .int (nI h))] [] F A R G
  refine wp_aload_n dX7_firmness_0 rfl 1 rfl ?_
  refine wp_getO (q := b + 2) fX7_60 hR rfl (hb) (bo_l0 hb) (by decide) rfl dX7_firmness_1 ?_
  refine wp_iload_n dX7_firmness_4 rfl 2 rfl ?_
  refine wp_iald h (rfl) (bo_k2 hb) (bo_l2 hb) (bo_i2 hb (by omega)) dX7_firmness_5 ?_
  refine wp_iconst (v := 4) dX7_firmness_6 (by decide) ?_
  refine wp_aload_n dX7_firmness_7 rfl 0 rfl ?_
  refine wp_getI fX7_25 rfl (ha) (st_l0 ha) dX7_firmness_8 ?_
  refine wp_iload_n dX7_firmness_11 rfl 2 rfl ?_
  refine wp_callP (mm_siteSN (av := [.int (F a 4), .int (nI h)]) hC lX7_63 rfl rfl (Nat.le_of_ble_eq_true rfl) dX7_firmness_12) (c_X9_bit l k _ _ _ _ _ _) (by omega) (by decide) ?_
  refine wp_imul dX7_firmness_15 ?_
  refine wp_iadd dX7_firmness_16 ?_
  refine wp_istore_n [1, 2, 3, 0] (by decide) rfl rfl rfl dX7_firmness_17 rfl ?_
  refine wp_aload_n dX7_firmness_18 rfl 0 rfl ?_
  refine wp_getI fX7_22 rfl (ha) (st_l0 ha) dX7_firmness_19 ?_
  refine wp_iload_n dX7_firmness_22 rfl 2 rfl ?_
  refine wp_callP (mm_siteSN (av := [.int (F a 3), .int (nI h)]) hC lX7_63 rfl rfl (Nat.le_of_ble_eq_true rfl) dX7_firmness_23) (c_X9_bit l k _ _ _ _ _ _) (by omega) (by decide) ?_
  refine wp_iconst (v := 1) dX7_firmness_26 (by decide) ?_
  refine wp_icmp_ne 34 dX7_firmness_27 (by decide) (fun c1 => ?_) (fun c1 => ?_)
  · refine wp_aload_n dX7_firmness_34 rfl 1 rfl ?_
    refine wp_getO (q := b + 3) fX7_45 hR rfl (hb) (bo_l0 hb) (by decide) rfl dX7_firmness_35 ?_
    refine wp_iload_n dX7_firmness_38 rfl 2 rfl ?_
    refine wp_iald h (rfl) (bo_k3 hb) (bo_l3 hb) (bo_i3 hb (by omega)) dX7_firmness_39 ?_
    refine wp_iconst (v := 2) dX7_firmness_40 (by decide) ?_
    refine wp_icmp_ne 53 dX7_firmness_41 (by decide) (fun c2 => ?_) (fun c2 => ?_)
    · refine wp_iconst (v := 1) dX7_firmness_53 (by decide) ?_
      refine wp_iload_n dX7_firmness_54 rfl 3 rfl ?_
      refine wp_max hC (by omega) (by decide) k_392 k_87 k_5 k_88 (Nat.le_of_ble_eq_true rfl) dX7_firmness_55 ?_
      exact wp_iret hC rfl rfl dX7_firmness_58 (pP_ok (by simp [firmP, *]))
    · refine wp_iload_n dX7_firmness_44 rfl 3 rfl ?_
      refine wp_aload_n dX7_firmness_45 rfl 0 rfl ?_
      refine wp_getO (q := a + 2) fX7_15 hR rfl (ha) (st_l0 ha) (by decide) rfl dX7_firmness_46 ?_
      refine wp_iload_n dX7_firmness_49 rfl 2 rfl ?_
      refine wp_iald h (rfl) ((st_f ha).2.1.1) (st_l2 ha) (st_i2 ha (by omega)) dX7_firmness_50 ?_
      refine wp_isub dX7_firmness_51 ?_
      refine wp_istore_n [1, 2, 3, 0] (by decide) rfl rfl rfl dX7_firmness_52 rfl ?_
      refine wp_iconst (v := 1) dX7_firmness_53 (by decide) ?_
      refine wp_iload_n dX7_firmness_54 rfl 3 rfl ?_
      refine wp_max hC (by omega) (by decide) k_392 k_87 k_5 k_88 (Nat.le_of_ble_eq_true rfl) dX7_firmness_55 ?_
      exact wp_iret hC rfl rfl dX7_firmness_58 (pP_ok (by simp [firmP, *]))
  · refine wp_iload_n dX7_firmness_30 rfl 3 rfl ?_
    refine wp_iconst (v := 2) dX7_firmness_31 (by decide) ?_
    refine wp_idiv dX7_firmness_32 (by decide) ?_
    refine wp_istore_n [1, 2, 3, 0] (by decide) rfl rfl rfl dX7_firmness_33 rfl ?_
    refine wp_aload_n dX7_firmness_34 rfl 1 rfl ?_
    refine wp_getO (q := b + 3) fX7_45 hR rfl (hb) (bo_l0 hb) (by decide) rfl dX7_firmness_35 ?_
    refine wp_iload_n dX7_firmness_38 rfl 2 rfl ?_
    refine wp_iald h (rfl) (bo_k3 hb) (bo_l3 hb) (bo_i3 hb (by omega)) dX7_firmness_39 ?_
    refine wp_iconst (v := 2) dX7_firmness_40 (by decide) ?_
    refine wp_icmp_ne 53 dX7_firmness_41 (by decide) (fun c3 => ?_) (fun c3 => ?_)
    · refine wp_iconst (v := 1) dX7_firmness_53 (by decide) ?_
      refine wp_iload_n dX7_firmness_54 rfl 3 rfl ?_
      refine wp_max hC (by omega) (by decide) k_392 k_87 k_5 k_88 (Nat.le_of_ble_eq_true rfl) dX7_firmness_55 ?_
      exact wp_iret hC rfl rfl dX7_firmness_58 (pP_ok (by simp [firmP, *]))
    · refine wp_iload_n dX7_firmness_44 rfl 3 rfl ?_
      refine wp_aload_n dX7_firmness_45 rfl 0 rfl ?_
      refine wp_getO (q := a + 2) fX7_15 hR rfl (ha) (st_l0 ha) (by decide) rfl dX7_firmness_46 ?_
      refine wp_iload_n dX7_firmness_49 rfl 2 rfl ?_
      refine wp_iald h (rfl) ((st_f ha).2.1.1) (st_l2 ha) (st_i2 ha (by omega)) dX7_firmness_50 ?_
      refine wp_isub dX7_firmness_51 ?_
      refine wp_istore_n [1, 2, 3, 0] (by decide) rfl rfl rfl dX7_firmness_52 rfl ?_
      refine wp_iconst (v := 1) dX7_firmness_53 (by decide) ?_
      refine wp_iload_n dX7_firmness_54 rfl 3 rfl ?_
      refine wp_max hC (by omega) (by decide) k_392 k_87 k_5 k_88 (Nat.le_of_ble_eq_true rfl) dX7_firmness_55 ?_
      exact wp_iret hC rfl rfl dX7_firmness_58 (pP_ok (by simp [firmP, *]))

set_option maxRecDepth 100000 in
set_option maxHeartbeats 600000 in
theorem c_X9_hundreds (l : Launch) (k : Nat) (F A : mmF) (R : mmR) (G : mmG) (n : Nat) (hn : n < 5) : Meets l hX9_hundreds k 144 144 [.int (nI n)] F A R G (pP (mm_hu n) F A R G) := by
  refine mm_start rfl (Nat.le_of_ble_eq_true rfl) (fun X hC => ?_)
  show WP hX9_hundreds X 144 0 [(0, .int (nI n))] [] F A R G
  refine wp_iload_n dX9_hundreds_0 rfl 0 rfl ?_
  refine wp_if_lt 20 dX9_hundreds_1 (by decide) (fun c1 => ?_) (fun c1 => ?_)
  · replace c1 := (ix_lt (a := n) (b := 0) (rfl) (rfl) (by omega) (by omega)).mp c1
    refine wp_iconst (v := 1) dX9_hundreds_20 (by decide) ?_
    exact wp_iret hC rfl rfl dX9_hundreds_21 (pP_ok (by first | rfl | omega))
  · replace c1 := mt (ix_lt (a := n) (b := 0) (rfl) (rfl) (by omega) (by omega)).mpr c1
    refine wp_iload_n dX9_hundreds_4 rfl 0 rfl ?_
    refine wp_gets1 k_539 dX9_hundreds_5 ?_
    refine wp_tlen1 dX9_hundreds_8 ?_
    refine wp_icmp_ge 20 dX9_hundreds_9 (by decide) (fun c2 => ?_) (fun c2 => ?_)
    · replace c2 := (ix_le (a := 5) (b := n) (rfl) (rfl) (by omega) (by omega)).mp c2
      refine wp_iconst (v := 1) dX9_hundreds_20 (by decide) ?_
      exact wp_iret hC rfl rfl dX9_hundreds_21 (pP_ok (by first | rfl | omega))
    · replace c2 := mt (ix_le (a := 5) (b := n) (rfl) (rfl) (by omega) (by omega)).mpr c2
      refine wp_gets1 k_539 dX9_hundreds_12 ?_
      refine wp_iload_n dX9_hundreds_15 rfl 0 rfl ?_
      refine wp_tld1 n (rfl) (hn) dX9_hundreds_16 ?_
      refine wp_goto 21 dX9_hundreds_17 (by decide) ?_
      exact wp_iret hC rfl rfl dX9_hundreds_21 (pP_ok (by first | rfl | omega))

set_option maxRecDepth 100000 in
set_option maxHeartbeats 600000 in
theorem c_X9_ordersOf (l : Launch) (k : Nat) (F A : mmF) (R : mmR) (G : mmG) (n : Nat) (hn : n < 5) : Meets l hX9_ordersOf k 144 144 [.int (nI n)] F A R G (pP (mm_or n) F A R G) := by
  refine mm_start rfl (Nat.le_of_ble_eq_true rfl) (fun X hC => ?_)
  show WP hX9_ordersOf X 144 0 [(0, .int (nI n))] [] F A R G
  refine wp_iload_n dX9_ordersOf_0 rfl 0 rfl ?_
  refine wp_if_lt 20 dX9_ordersOf_1 (by decide) (fun c1 => ?_) (fun c1 => ?_)
  · replace c1 := (ix_lt (a := n) (b := 0) (rfl) (rfl) (by omega) (by omega)).mp c1
    refine wp_iconst (v := 1) dX9_ordersOf_20 (by decide) ?_
    exact wp_iret hC rfl rfl dX9_ordersOf_21 (pP_ok (by first | rfl | omega))
  · replace c1 := mt (ix_lt (a := n) (b := 0) (rfl) (rfl) (by omega) (by omega)).mpr c1
    refine wp_iload_n dX9_ordersOf_4 rfl 0 rfl ?_
    refine wp_gets2 k_610 dX9_ordersOf_5 ?_
    refine wp_tlen2 dX9_ordersOf_8 ?_
    refine wp_icmp_ge 20 dX9_ordersOf_9 (by decide) (fun c2 => ?_) (fun c2 => ?_)
    · replace c2 := (ix_le (a := 5) (b := n) (rfl) (rfl) (by omega) (by omega)).mp c2
      refine wp_iconst (v := 1) dX9_ordersOf_20 (by decide) ?_
      exact wp_iret hC rfl rfl dX9_ordersOf_21 (pP_ok (by first | rfl | omega))
    · replace c2 := mt (ix_le (a := 5) (b := n) (rfl) (rfl) (by omega) (by omega)).mpr c2
      refine wp_gets2 k_610 dX9_ordersOf_12 ?_
      refine wp_iload_n dX9_ordersOf_15 rfl 0 rfl ?_
      refine wp_tld2 n (rfl) (hn) dX9_ordersOf_16 ?_
      refine wp_goto 21 dX9_ordersOf_17 (by decide) ?_
      exact wp_iret hC rfl rfl dX9_ordersOf_21 (pP_ok (by first | rfl | omega))

