set_option maxRecDepth 100000 in
set_option maxHeartbeats 600000 in
theorem c_X9_newStands (l : Launch) (k : Nat) (F A : mmF) (R : mmR) (G : mmG) (a n : Nat) (hK : mm_K a = 13) (hn : mm_len a = n) (hS : ∀ i, i < n → mm_K (a + 1 + 3 * i) = 7) (hnn : n < 1000) (hF : fz 0 a F) (hA : fz 0 a A) (hR : fz none a R) (hG : ∀ r, a ≤ r → G r = 0) : Meets l hX9_newStands (k + 2) a (a + 1 + 3 * n) [.int (nI n)] F A R G (pN a (fun F1 A1 R1 G1 => mk1 a (a + 1 + 3 * n) F R F1 R1 ∧ A = A1 ∧ G = G1)) := by
  refine mm_start rfl (Nat.le_of_ble_eq_true rfl) (fun X hC => ?_)
  show WP hX9_newStands X a 0 [(0, .int (nI n))] [] F A R G
  refine wp_iconst (v := 0) dX9_newStands_0 (by decide) ?_
  refine wp_iload_n dX9_newStands_1 rfl 0 rfl ?_
  refine wp_max hC (by omega) (by omega) k_86 k_87 k_5 k_88 (Nat.le_of_ble_eq_true rfl) dX9_newStands_2 ?_
  have hmx : (if (0 : Int32) < nI n then nI n else 0) = nI n := by
    rcases Nat.eq_zero_or_pos n with h | h
    · rw [h]; rfl
    · exact if_pos ((ix_lt (a := 0) (b := n) rfl rfl (by omega) (by omega)).mpr h)
  refine wp_top (x' := nI n) hmx ?_
  refine wp_newR (n := n) hC (by omega) rfl hn (by omega) hK k_39 (hR a (Nat.le_refl _)) dX9_newStands_5 ?_
  refine wp_astore_n [1, 0] (by decide) rfl rfl rfl dX9_newStands_8 rfl ?_
  refine wp_iconst (v := 0) dX9_newStands_9 (by decide) ?_
  refine wp_istore_n [1, 2, 0] (by decide) rfl rfl rfl dX9_newStands_10 rfl ?_
  have lp : ∀ (nn i : Nat) (F1 : mmF) (R1 : mmR), i ≤ n → mk2 a (a + 1 + 3 * i) F R F1 R1 → F1 a = (fun _ => 0) → R1 a = (fun j => if j < i then some (a + 1 + 3 * j) else none) → n - i < nn → WP hX9_newStands X (a + 1 + 3 * i) 11 [(0, .int (nI n)), (1, .ref a), (2, .int (nI i))] [] F1 A R1 G := by
    intro nn
    induction nn with
    | zero => intro i F1 R1 _ _ _ _ hm; exact absurd hm (Nat.not_lt_zero _)
    | succ nn ih =>
      intro i F1 R1 hi m hf hr hm
      refine wp_iload_n dX9_newStands_11 rfl 2 rfl ?_
      refine wp_aload_n dX9_newStands_12 rfl 1 rfl ?_
      refine wp_alen (v := nI n) (Or.inr (Or.inr hK)) (by omega) (by rw [hn]) dX9_newStands_13 ?_
      refine wp_icmp_ge 33 dX9_newStands_14 (by decide) (fun c => ?_) (fun c => ?_)
      · replace c := (ix_le (a := n) (b := i) rfl rfl (by omega) (by omega)).mp c
        have e : i = n := by omega
        subst e
        have rowF : F1 a = FI a := by
          rw [hf]; funext j; simp [FI, FIl, hK]
        have rowR : R1 a = RI a := by
          rw [hr]; funext j; simp [RI, hK, hn]
        refine wp_aload_n dX9_newStands_33 rfl 1 rfl ?_
        exact wp_aret hC rfl dX9_newStands_34 ⟨rfl, mk2_end m rowF rowR, rfl, rfl⟩
      · replace c := mt (ix_le (a := n) (b := i) rfl rfl (by omega) (by omega)).mpr c
        have c1 : i < n := by omega
        refine wp_aload_n dX9_newStands_17 rfl 1 rfl ?_
        refine wp_iload_n dX9_newStands_18 rfl 2 rfl ?_
        refine wp_new (ci := 7) (C := RX7) (T := TX7) (n := 7) (ty := tyX7) hC (by omega) (hS i c1) rfl rfl inX7 tyX7_ok k_39 k_40 k_3 (mk_fv (m.fF hF (by omega)) (m.fR hR (by omega)) (fun r hr => hG r (by omega)) dfX7) dX9_newStands_19 ?_
        refine wp_dup dX9_newStands_22 rfl ?_
        have hM := c_X7_init l k F1 A R1 G (a + 1 + 3 * i) (hS i c1) (m.fF hF (by omega)) (hA.le (by omega)) (m.fR hR (by omega)) (fun r hr => hG r (by omega))
        rw [show a + 1 + 3 * i + 3 = a + 1 + 3 * (i + 1) by omega] at hM
        refine wp_callV (N' := a + 1 + 3 * (i + 1)) (mm_siteIN (av := []) hC rfl lX9_18 rfl rfl (Nat.le_of_ble_eq_true rfl) dX9_newStands_23) hM (by omega) (by omega) (by omega) (fun F2 A2 R2 G2 hq => ?_)
        obtain ⟨q, e1, e2⟩ := hq; subst e1; subst e2
        have m2 : mk2 a (a + 1 + 3 * (i + 1)) F R F2 (u2 R2 a i (some (a + 1 + 3 * i))) := mk2_putR (mk2_sub m q (by omega) (by omega)) (by omega)
        refine wp_aast i rfl hK (by omega) (by rw [hn]; exact c1) (hS i c1) (by omega) dX9_newStands_26 ?_
        refine wp_iinc (v := nI (i + 1)) 2 rfl (by exact ix_add (b := 1) rfl rfl) [1, 2, 0] (by decide) rfl rfl rfl dX9_newStands_27 ?_
        refine wp_goto 11 dX9_newStands_30 (by decide) ?_
        refine ih (i + 1) F2 (u2 R2 a i (some (a + 1 + 3 * i))) (by omega) m2 ((q.2 a (Or.inl (by omega))).1.trans hf) ?_ (by omega)
        rw [u2_row, (q.2 a (Or.inl (by omega))).2, hr]
        funext j
        unfold va_up
        by_cases h1 : j = i
        · subst h1; simp
        · have h2 : (j < i) = (j < i + 1) := propext (by omega)
          simp only [h1, if_false, h2]
  exact lp (n + 1) 0 F R (by omega) mk2_start (hF a (Nat.le_refl _)) ((hR a (Nat.le_refl _)).trans (funext fun j => (if_neg (Nat.not_lt_zero _)).symm)) (by omega)

theorem G_put0 {G : mmG} (h : G 0 = 0) : G = va_up G 0 0 := funext fun r => by
  unfold va_up; split
  · rename_i e; rw [e]; exact h
  · rfl

set_option maxRecDepth 100000 in
set_option maxHeartbeats 600000 in
theorem c_X0_init (l : Launch) (k : Nat) (F A : mmF) (R : mmR) (G : mmG) (hF : fz 0 6 F) (hA : fz 0 6 A) (hR : fz none 6 R) (hG : ∀ r, 6 ≤ r → G r = 0) : Meets l hX0_init (k + 3) 7 50 [.ref 6] F A R G (pV (fun F1 A1 R1 G1 => mk1 6 50 F R F1 R1 ∧ A = A1 ∧ G = G1)) := by
  refine mm_start rfl (Nat.le_of_ble_eq_true rfl) (fun X hC => ?_)
  show WP hX0_init X 7 0 [(0, .ref 6)] [] F A R G
  have m0 : mk2 6 7 F R F R := mk2_start
  refine wp_aload_n dX0_init_0 rfl 0 rfl ?_
  refine wp_objInit hC (by omega) k_82 k_21 k_22 (Nat.le_of_ble_eq_true rfl) dX0_init_1 ?_
  refine wp_aload_n dX0_init_4 rfl 0 rfl ?_
  refine wp_bipush (v := 14) dX0_init_5 (by decide) ?_
  refine wp_callN (q := 7) (N' := 50) (mm_siteSN (av := [.int 14]) hC lX0_9 rfl rfl (Nat.le_of_ble_eq_true rfl) dX0_init_7) (c_X9_newStands l (k + 0) _ _ _ _ 7 14 rfl rfl (by decide) (by decide) (m0.fF hF (by decide)) (hA.le (by decide)) (m0.fR hR (by decide)) (fun r hr => hG r (by omega))) (by omega) (by decide) (by decide) (fun F1 A1 R1 G1 hq => ?_)
  obtain ⟨q1, e1, e2⟩ := hq; subst e1; subst e2
  have m1 : mk2 6 50 F R F1 R1 := mk2_sub m0 q1 (by decide) (by decide)
  refine wp_putRF fX0_13 (mm_fin (RX0, TX0, 3) rfl ⟨rfl, rfl⟩) rfl rfl (rfl) (by decide) dX0_init_10 ?_
  have m2 : mk2 6 50 F R F1 (u2 R1 6 0 (some 7)) := mk2_putR m1 (by decide)
  refine wp_aload_n dX0_init_13 rfl 0 rfl ?_
  refine wp_iconst (v := 0) dX0_init_14 (by decide) ?_
  refine wp_putI fX0_19 fn_0_1 rfl (rfl) (by decide) dX0_init_15 ?_
  have m3 : mk2 6 50 F R (u2 F1 6 1 0) (u2 R1 6 0 (some 7)) := mk2_putF m2 (by decide)
  refine wp_aload_n dX0_init_18 rfl 0 rfl ?_
  refine wp_iconst (v := 0) dX0_init_19 (by decide) ?_
  refine wp_putI fX0_23 fn_0_2 rfl (rfl) (by decide) dX0_init_20 ?_
  have m4 : mk2 6 50 F R (u2 (u2 F1 6 1 0) 6 2 0) (u2 R1 6 0 (some 7)) := mk2_putF m3 (by decide)
  have rowF : (u2 (u2 F1 6 1 0) 6 2 0) 6 = FI 6 := by
    simp only [u2_row, (q1.2 6 (Or.inl (by decide))).1, (q1.2 6 (Or.inl (by decide))).2, hF 6 (Nat.le_refl _)]
    funext j
    rcases j with _|_|_|j <;> simp [va_up, FI, FIl, RI, show mm_K 6 = 0 from rfl, mm_off, mm_offl]
  have rowR : (u2 R1 6 0 (some 7)) 6 = RI 6 := by
    simp only [u2_row, (q1.2 6 (Or.inl (by decide))).1, (q1.2 6 (Or.inl (by decide))).2, hR 6 (Nat.le_refl _)]
    funext j
    rcases j with _|_|_|j <;> simp [va_up, FI, FIl, RI, show mm_K 6 = 0 from rfl, mm_off, mm_offl]
  exact wp_vret hC rfl dX0_init_23 (⟨rfl, mk2_end m4 rowF rowR, rfl, rfl⟩)

set_option maxRecDepth 100000 in
set_option maxHeartbeats 600000 in
theorem c_X6_init (l : Launch) (k : Nat) (F A : mmF) (R : mmR) (G : mmG) (hF : fz 0 54 F) (hA : fz 0 54 A) (hR : fz none 54 R) (hG : ∀ r, 54 ≤ r → G r = 0) : Meets l hX6_init (k + 3) 55 63 [.ref 54] F A R G (pV (fun F1 A1 R1 G1 => mk1 54 63 F R F1 R1 ∧ A = A1 ∧ G = G1)) := by
  refine mm_start rfl (Nat.le_of_ble_eq_true rfl) (fun X hC => ?_)
  show WP hX6_init X 55 0 [(0, .ref 54)] [] F A R G
  have m0 : mk2 54 55 F R F R := mk2_start
  refine wp_aload_n dX6_init_0 rfl 0 rfl ?_
  refine wp_objInit hC (by omega) k_126 k_21 k_22 (Nat.le_of_ble_eq_true rfl) dX6_init_1 ?_
  refine wp_aload_n dX6_init_4 rfl 0 rfl ?_
  refine wp_iconst (v := 2) dX6_init_5 (by decide) ?_
  refine wp_callN (q := 55) (N' := 62) (mm_siteSN (av := [.int 2]) hC lX6_9 rfl rfl (Nat.le_of_ble_eq_true rfl) dX6_init_6) (c_X9_newStands l (k + 0) _ _ _ _ 55 2 rfl rfl (by decide) (by decide) (m0.fF hF (by decide)) (hA.le (by decide)) (m0.fR hR (by decide)) (fun r hr => hG r (by omega))) (by omega) (by decide) (by decide) (fun F1 A1 R1 G1 hq => ?_)
  obtain ⟨q1, e1, e2⟩ := hq; subst e1; subst e2
  have m1 : mk2 54 62 F R F1 R1 := mk2_sub m0 q1 (by decide) (by decide)
  refine wp_putRF fX6_13 (mm_fin (RX6, TX6, 2) rfl ⟨rfl, rfl⟩) rfl rfl (rfl) (by decide) dX6_init_9 ?_
  have m2 : mk2 54 62 F R F1 (u2 R1 54 0 (some 55)) := mk2_putR m1 (by decide)
  refine wp_aload_n dX6_init_12 rfl 0 rfl ?_
  refine wp_iconst (v := 2) dX6_init_13 (by decide) ?_
  refine wp_newI (ty := .boolean) (n := 2) (t0 := 0) hC (by decide) (rfl) (rfl) (by decide) rfl (Or.inr ⟨rfl, rfl⟩) k_135 (hA _ (by decide)) dX6_init_14 ?_
  have m3 : mk2 54 63 F R F1 (u2 R1 54 0 (some 55)) := mk2_arr m2 hF hR (Or.inr rfl) (by decide)
  refine wp_putRF fX6_19 (mm_fin (RX6, TX6, 2) rfl ⟨rfl, rfl⟩) rfl rfl (rfl) (by decide) dX6_init_16 ?_
  have m4 : mk2 54 63 F R F1 (u2 (u2 R1 54 0 (some 55)) 54 1 (some 62)) := mk2_putR m3 (by decide)
  have rowF : F1 54 = FI 54 := by
    simp only [u2_row, (q1.2 54 (Or.inl (by decide))).1, (q1.2 54 (Or.inl (by decide))).2, hF 54 (Nat.le_refl _)]
    funext j
    rcases j with _|_|j <;> simp [va_up, FI, FIl, RI, show mm_K 54 = 6 from rfl, mm_off, mm_offl]
  have rowR : (u2 (u2 R1 54 0 (some 55)) 54 1 (some 62)) 54 = RI 54 := by
    simp only [u2_row, (q1.2 54 (Or.inl (by decide))).1, (q1.2 54 (Or.inl (by decide))).2, hR 54 (Nat.le_refl _)]
    funext j
    rcases j with _|_|j <;> simp [va_up, FI, FIl, RI, show mm_K 54 = 6 from rfl, mm_off, mm_offl]
  exact wp_vret hC rfl dX6_init_19 (⟨rfl, mk2_end m4 rowF rowR, rfl, rfl⟩)

set_option maxRecDepth 100000 in
set_option maxHeartbeats 600000 in
theorem c_X4_init (l : Launch) (k : Nat) (F A : mmF) (R : mmR) (G : mmG) (hF : fz 0 63 F) (hA : fz 0 63 A) (hR : fz none 63 R) (hG : ∀ r, 63 ≤ r → G r = 0) : Meets l hX4_init (k + 3) 64 80 [.ref 63] F A R G (pV (fun F1 A1 R1 G1 => mk1 63 80 F R F1 R1 ∧ A = A1 ∧ G = G1)) := by
  refine mm_start rfl (Nat.le_of_ble_eq_true rfl) (fun X hC => ?_)
  show WP hX4_init X 64 0 [(0, .ref 63)] [] F A R G
  have m0 : mk2 63 64 F R F R := mk2_start
  refine wp_aload_n dX4_init_0 rfl 0 rfl ?_
  refine wp_objInit hC (by omega) k_141 k_21 k_22 (Nat.le_of_ble_eq_true rfl) dX4_init_1 ?_
  refine wp_aload_n dX4_init_4 rfl 0 rfl ?_
  refine wp_iconst (v := 5) dX4_init_5 (by decide) ?_
  refine wp_callN (q := 64) (N' := 80) (mm_siteSN (av := [.int 5]) hC lX4_9 rfl rfl (Nat.le_of_ble_eq_true rfl) dX4_init_6) (c_X9_newStands l (k + 0) _ _ _ _ 64 5 rfl rfl (by decide) (by decide) (m0.fF hF (by decide)) (hA.le (by decide)) (m0.fR hR (by decide)) (fun r hr => hG r (by omega))) (by omega) (by decide) (by decide) (fun F1 A1 R1 G1 hq => ?_)
  obtain ⟨q1, e1, e2⟩ := hq; subst e1; subst e2
  have m1 : mk2 63 80 F R F1 R1 := mk2_sub m0 q1 (by decide) (by decide)
  refine wp_putRF fX4_13 (mm_fin (RX4, TX4, 3) rfl ⟨rfl, rfl⟩) rfl rfl (rfl) (by decide) dX4_init_9 ?_
  have m2 : mk2 63 80 F R F1 (u2 R1 63 0 (some 64)) := mk2_putR m1 (by decide)
  refine wp_aload_n dX4_init_12 rfl 0 rfl ?_
  refine wp_iconst (v := 0) dX4_init_13 (by decide) ?_
  refine wp_putI fX4_19 fn_4_1 rfl (rfl) (by decide) dX4_init_14 ?_
  have m3 : mk2 63 80 F R (u2 F1 63 1 0) (u2 R1 63 0 (some 64)) := mk2_putF m2 (by decide)
  refine wp_aload_n dX4_init_17 rfl 0 rfl ?_
  refine wp_iconst (v := 1) dX4_init_18 (by decide) ?_
  refine wp_putI fX4_23 fn_4_2 rfl (rfl) (by decide) dX4_init_19 ?_
  have m4 : mk2 63 80 F R (u2 (u2 F1 63 1 0) 63 2 1) (u2 R1 63 0 (some 64)) := mk2_putF m3 (by decide)
  have rowF : (u2 (u2 F1 63 1 0) 63 2 1) 63 = FI 63 := by
    simp only [u2_row, (q1.2 63 (Or.inl (by decide))).1, (q1.2 63 (Or.inl (by decide))).2, hF 63 (Nat.le_refl _)]
    funext j
    rcases j with _|_|_|j <;> simp [va_up, FI, FIl, RI, show mm_K 63 = 4 from rfl, mm_off, mm_offl]
  have rowR : (u2 R1 63 0 (some 64)) 63 = RI 63 := by
    simp only [u2_row, (q1.2 63 (Or.inl (by decide))).1, (q1.2 63 (Or.inl (by decide))).2, hR 63 (Nat.le_refl _)]
    funext j
    rcases j with _|_|_|j <;> simp [va_up, FI, FIl, RI, show mm_K 63 = 4 from rfl, mm_off, mm_offl]
  exact wp_vret hC rfl dX4_init_22 (⟨rfl, mk2_end m4 rowF rowR, rfl, rfl⟩)

set_option maxRecDepth 100000 in
set_option maxHeartbeats 600000 in
theorem c_X2_init (l : Launch) (k : Nat) (F A : mmF) (R : mmR) (G : mmG) (hF : fz 0 86 F) (hA : fz 0 86 A) (hR : fz none 86 R) (hG : ∀ r, 86 ≤ r → G r = 0) : Meets l hX2_init (k + 3) 87 103 [.ref 86] F A R G (pV (fun F1 A1 R1 G1 => mk1 86 103 F R F1 R1 ∧ A = A1 ∧ G = G1)) := by
  refine mm_start rfl (Nat.le_of_ble_eq_true rfl) (fun X hC => ?_)
  show WP hX2_init X 87 0 [(0, .ref 86)] [] F A R G
  have m0 : mk2 86 87 F R F R := mk2_start
  refine wp_aload_n dX2_init_0 rfl 0 rfl ?_
  refine wp_objInit hC (by omega) k_186 k_21 k_22 (Nat.le_of_ble_eq_true rfl) dX2_init_1 ?_
  refine wp_aload_n dX2_init_4 rfl 0 rfl ?_
  refine wp_iconst (v := 5) dX2_init_5 (by decide) ?_
  refine wp_callN (q := 87) (N' := 103) (mm_siteSN (av := [.int 5]) hC lX2_9 rfl rfl (Nat.le_of_ble_eq_true rfl) dX2_init_6) (c_X9_newStands l (k + 0) _ _ _ _ 87 5 rfl rfl (by decide) (by decide) (m0.fF hF (by decide)) (hA.le (by decide)) (m0.fR hR (by decide)) (fun r hr => hG r (by omega))) (by omega) (by decide) (by decide) (fun F1 A1 R1 G1 hq => ?_)
  obtain ⟨q1, e1, e2⟩ := hq; subst e1; subst e2
  have m1 : mk2 86 103 F R F1 R1 := mk2_sub m0 q1 (by decide) (by decide)
  refine wp_putRF fX2_13 (mm_fin (RX2, TX2, 4) rfl ⟨rfl, rfl⟩) rfl rfl (rfl) (by decide) dX2_init_9 ?_
  have m2 : mk2 86 103 F R F1 (u2 R1 86 0 (some 87)) := mk2_putR m1 (by decide)
  refine wp_aload_n dX2_init_12 rfl 0 rfl ?_
  refine wp_iconst (v := 0) dX2_init_13 (by decide) ?_
  refine wp_putI fX2_19 fn_2_1 rfl (rfl) (by decide) dX2_init_14 ?_
  have m3 : mk2 86 103 F R (u2 F1 86 1 0) (u2 R1 86 0 (some 87)) := mk2_putF m2 (by decide)
  refine wp_aload_n dX2_init_17 rfl 0 rfl ?_
  refine wp_iconst (v := 0) dX2_init_18 (by decide) ?_
  refine wp_putI fX2_23 fn_2_2 rfl (rfl) (by decide) dX2_init_19 ?_
  have m4 : mk2 86 103 F R (u2 (u2 F1 86 1 0) 86 2 0) (u2 R1 86 0 (some 87)) := mk2_putF m3 (by decide)
  refine wp_aload_n dX2_init_22 rfl 0 rfl ?_
  refine wp_iconst (v := 0) dX2_init_23 (by decide) ?_
  refine wp_putI fX2_26 fn_2_3 rfl (rfl) (by decide) dX2_init_24 ?_
  have m5 : mk2 86 103 F R (u2 (u2 (u2 F1 86 1 0) 86 2 0) 86 3 0) (u2 R1 86 0 (some 87)) := mk2_putF m4 (by decide)
  have rowF : (u2 (u2 (u2 F1 86 1 0) 86 2 0) 86 3 0) 86 = FI 86 := by
    simp only [u2_row, (q1.2 86 (Or.inl (by decide))).1, (q1.2 86 (Or.inl (by decide))).2, hF 86 (Nat.le_refl _)]
    funext j
    rcases j with _|_|_|_|j <;> simp [va_up, FI, FIl, RI, show mm_K 86 = 2 from rfl, mm_off, mm_offl]
  have rowR : (u2 R1 86 0 (some 87)) 86 = RI 86 := by
    simp only [u2_row, (q1.2 86 (Or.inl (by decide))).1, (q1.2 86 (Or.inl (by decide))).2, hR 86 (Nat.le_refl _)]
    funext j
    rcases j with _|_|_|_|j <;> simp [va_up, FI, FIl, RI, show mm_K 86 = 2 from rfl, mm_off, mm_offl]
  exact wp_vret hC rfl dX2_init_27 (⟨rfl, mk2_end m5 rowF rowR, rfl, rfl⟩)

set_option maxRecDepth 100000 in
set_option maxHeartbeats 600000 in
theorem c_X9_init (l : Launch) (k : Nat) (F A : mmF) (R : mmR) (G : mmG) (hF : fz 0 0 F) (hA : fz 0 0 A) (hR : fz none 0 R) (hG : ∀ r, 0 ≤ r → G r = 0) : Meets l hX9_init (k + 4) 1 123 [.ref 0] F A R G (pV (fun F1 A1 R1 G1 => mk1 0 123 F R F1 R1 ∧ A = A1 ∧ G = G1)) := by
  refine mm_start rfl (Nat.le_of_ble_eq_true rfl) (fun X hC => ?_)
  show WP hX9_init X 1 0 [(0, .ref 0)] [] F A R G
  have m0 : mk2 0 1 F R F R := mk2_start
  refine wp_aload_n dX9_init_0 rfl 0 rfl ?_
  refine wp_objInit hC (by omega) k_20 k_21 k_22 (Nat.le_of_ble_eq_true rfl) dX9_init_1 ?_
  refine wp_aload_n dX9_init_4 rfl 0 rfl ?_
  refine wp_new (ci := 8) (C := RX8) (T := TX8) (n := 2) (ty := tyX8) hC (by decide) rfl rfl rfl inX8 tyX8_ok k_23 k_24 k_2 (mk_fv (m0.fF hF (by decide)) (m0.fR hR (by decide)) (fun r hr => hG r (by omega)) dfX8) dX9_init_5 ?_
  refine wp_dup dX9_init_8 rfl ?_
  refine wp_callV (N' := 3) (mm_siteIN (av := []) hC rfl lX9_9 rfl rfl (Nat.le_of_ble_eq_true rfl) dX9_init_9) (c_X8_init l (k + 2) _ _ _ _ (m0.fF hF (by decide)) (hA.le (by decide)) (m0.fR hR (by decide)) (fun r hr => hG r (by omega))) (by omega) (by decide) (by decide) (fun F1 A1 R1 G1 hq => ?_)
  obtain ⟨q1, e1, e2⟩ := hq; subst e1; subst e2
  have m1 : mk2 0 3 F R F1 R1 := mk2_sub m0 q1 (by decide) (by decide)
  refine wp_putRF fX9_10 (mm_fin (RX9, TX9, 11) rfl ⟨rfl, rfl⟩) rfl rfl (rfl) (by decide) dX9_init_12 ?_
  have m2 : mk2 0 3 F R F1 (u2 R1 0 0 (some 1)) := mk2_putR m1 (by decide)
  refine wp_aload_n dX9_init_15 rfl 0 rfl ?_
  refine wp_new (ci := 7) (C := RX7) (T := TX7) (n := 7) (ty := tyX7) hC (by decide) rfl rfl rfl inX7 tyX7_ok k_39 k_40 k_3 (mk_fv (m2.fF hF (by decide)) (m2.fR hR (by decide)) (fun r hr => hG r (by omega)) dfX7) dX9_init_16 ?_
  refine wp_dup dX9_init_19 rfl ?_
  refine wp_callV (N' := 6) (mm_siteIN (av := []) hC rfl lX9_18 rfl rfl (Nat.le_of_ble_eq_true rfl) dX9_init_20) (c_X7_init l (k + 2) _ _ _ _ 3 rfl (m2.fF hF (by decide)) (hA.le (by decide)) (m2.fR hR (by decide)) (fun r hr => hG r (by omega))) (by omega) (by decide) (by decide) (fun F2 A2 R2 G2 hq => ?_)
  obtain ⟨q2, e1, e2⟩ := hq; subst e1; subst e2
  have m3 : mk2 0 6 F R F2 R2 := mk2_sub m2 q2 (by decide) (by decide)
  refine wp_putRF fX9_19 (mm_fin (RX9, TX9, 11) rfl ⟨rfl, rfl⟩) rfl rfl (rfl) (by decide) dX9_init_23 ?_
  have m4 : mk2 0 6 F R F2 (u2 R2 0 1 (some 3)) := mk2_putR m3 (by decide)
  refine wp_aload_n dX9_init_26 rfl 0 rfl ?_
  refine wp_new (ci := 0) (C := RX0) (T := TX0) (n := 3) (ty := tyX0) hC (by decide) rfl rfl rfl inX0 tyX0_ok k_77 k_78 k_4 (mk_fv (m4.fF hF (by decide)) (m4.fR hR (by decide)) (fun r hr => hG r (by omega)) dfX0) dX9_init_27 ?_
  refine wp_dup dX9_init_30 rfl ?_
  refine wp_callV (N' := 50) (mm_siteIN (av := []) hC rfl lX9_25 rfl rfl (Nat.le_of_ble_eq_true rfl) dX9_init_31) (c_X0_init l (k + 0) _ _ _ _ (m4.fF hF (by decide)) (hA.le (by decide)) (m4.fR hR (by decide)) (fun r hr => hG r (by omega))) (by omega) (by decide) (by decide) (fun F3 A3 R3 G3 hq => ?_)
  obtain ⟨q3, e1, e2⟩ := hq; subst e1; subst e2
  have m5 : mk2 0 50 F R F3 R3 := mk2_sub m4 q3 (by decide) (by decide)
  refine wp_putRF fX9_26 (mm_fin (RX9, TX9, 11) rfl ⟨rfl, rfl⟩) rfl rfl (rfl) (by decide) dX9_init_34 ?_
  have m6 : mk2 0 50 F R F3 (u2 R3 0 2 (some 6)) := mk2_putR m5 (by decide)
  refine wp_aload_n dX9_init_37 rfl 0 rfl ?_
  refine wp_new (ci := 5) (C := RX5) (T := TX5) (n := 4) (ty := tyX5) hC (by decide) rfl rfl rfl inX5 tyX5_ok k_101 k_102 k_6 (mk_fv (m6.fF hF (by decide)) (m6.fR hR (by decide)) (fun r hr => hG r (by omega)) dfX5) dX9_init_38 ?_
  refine wp_dup dX9_init_41 rfl ?_
  refine wp_callV (N' := 54) (mm_siteIN (av := []) hC rfl lX9_32 rfl rfl (Nat.le_of_ble_eq_true rfl) dX9_init_42) (c_X5_init l (k + 2) _ _ _ _ (m6.fF hF (by decide)) (hA.le (by decide)) (m6.fR hR (by decide)) (fun r hr => hG r (by omega))) (by omega) (by decide) (by decide) (fun F4 A4 R4 G4 hq => ?_)
  obtain ⟨q4, e1, e2⟩ := hq; subst e1; subst e2
  have m7 : mk2 0 54 F R F4 R4 := mk2_sub m6 q4 (by decide) (by decide)
  refine wp_putRF fX9_33 (mm_fin (RX9, TX9, 11) rfl ⟨rfl, rfl⟩) rfl rfl (rfl) (by decide) dX9_init_45 ?_
  have m8 : mk2 0 54 F R F4 (u2 R4 0 3 (some 50)) := mk2_putR m7 (by decide)
  refine wp_aload_n dX9_init_48 rfl 0 rfl ?_
  refine wp_new (ci := 6) (C := RX6) (T := TX6) (n := 2) (ty := tyX6) hC (by decide) rfl rfl rfl inX6 tyX6_ok k_121 k_122 k_7 (mk_fv (m8.fF hF (by decide)) (m8.fR hR (by decide)) (fun r hr => hG r (by omega)) dfX6) dX9_init_49 ?_
  refine wp_dup dX9_init_52 rfl ?_
  refine wp_callV (N' := 63) (mm_siteIN (av := []) hC rfl lX9_39 rfl rfl (Nat.le_of_ble_eq_true rfl) dX9_init_53) (c_X6_init l (k + 0) _ _ _ _ (m8.fF hF (by decide)) (hA.le (by decide)) (m8.fR hR (by decide)) (fun r hr => hG r (by omega))) (by omega) (by decide) (by decide) (fun F5 A5 R5 G5 hq => ?_)
  obtain ⟨q5, e1, e2⟩ := hq; subst e1; subst e2
  have m9 : mk2 0 63 F R F5 R5 := mk2_sub m8 q5 (by decide) (by decide)
  refine wp_putRF fX9_40 (mm_fin (RX9, TX9, 11) rfl ⟨rfl, rfl⟩) rfl rfl (rfl) (by decide) dX9_init_56 ?_
  have m10 : mk2 0 63 F R F5 (u2 R5 0 4 (some 54)) := mk2_putR m9 (by decide)
  refine wp_aload_n dX9_init_59 rfl 0 rfl ?_
  refine wp_new (ci := 4) (C := RX4) (T := TX4) (n := 3) (ty := tyX4) hC (by decide) rfl rfl rfl inX4 tyX4_ok k_136 k_137 k_8 (mk_fv (m10.fF hF (by decide)) (m10.fR hR (by decide)) (fun r hr => hG r (by omega)) dfX4) dX9_init_60 ?_
  refine wp_dup dX9_init_63 rfl ?_
  refine wp_callV (N' := 80) (mm_siteIN (av := []) hC rfl lX9_46 rfl rfl (Nat.le_of_ble_eq_true rfl) dX9_init_64) (c_X4_init l (k + 0) _ _ _ _ (m10.fF hF (by decide)) (hA.le (by decide)) (m10.fR hR (by decide)) (fun r hr => hG r (by omega))) (by omega) (by decide) (by decide) (fun F6 A6 R6 G6 hq => ?_)
  obtain ⟨q6, e1, e2⟩ := hq; subst e1; subst e2
  have m11 : mk2 0 80 F R F6 R6 := mk2_sub m10 q6 (by decide) (by decide)
  refine wp_putRF fX9_47 (mm_fin (RX9, TX9, 11) rfl ⟨rfl, rfl⟩) rfl rfl (rfl) (by decide) dX9_init_67 ?_
  have m12 : mk2 0 80 F R F6 (u2 R6 0 5 (some 63)) := mk2_putR m11 (by decide)
  refine wp_aload_n dX9_init_70 rfl 0 rfl ?_
  refine wp_new (ci := 3) (C := RX3) (T := TX3) (n := 5) (ty := tyX3) hC (by decide) rfl rfl rfl inX3 tyX3_ok k_155 k_156 k_9 (mk_fv (m12.fF hF (by decide)) (m12.fR hR (by decide)) (fun r hr => hG r (by omega)) dfX3) dX9_init_71 ?_
  refine wp_dup dX9_init_74 rfl ?_
  refine wp_callV (N' := 86) (mm_siteIN (av := []) hC rfl lX9_53 rfl rfl (Nat.le_of_ble_eq_true rfl) dX9_init_75) (c_X3_init l (k + 1) _ _ _ _ (m12.fF hF (by decide)) (hA.le (by decide)) (m12.fR hR (by decide)) (fun r hr => hG r (by omega))) (by omega) (by decide) (by decide) (fun F7 A7 R7 G7 hq => ?_)
  obtain ⟨q7, e1, e2⟩ := hq; subst e1; subst e2
  have m13 : mk2 0 86 F R F7 R7 := mk2_sub m12 q7 (by decide) (by decide)
  refine wp_putRF fX9_54 (mm_fin (RX9, TX9, 11) rfl ⟨rfl, rfl⟩) rfl rfl (rfl) (by decide) dX9_init_78 ?_
  have m14 : mk2 0 86 F R F7 (u2 R7 0 6 (some 80)) := mk2_putR m13 (by decide)
  refine wp_aload_n dX9_init_81 rfl 0 rfl ?_
  refine wp_new (ci := 2) (C := RX2) (T := TX2) (n := 4) (ty := tyX2) hC (by decide) rfl rfl rfl inX2 tyX2_ok k_181 k_182 k_10 (mk_fv (m14.fF hF (by decide)) (m14.fR hR (by decide)) (fun r hr => hG r (by omega)) dfX2) dX9_init_82 ?_
  refine wp_dup dX9_init_85 rfl ?_
  refine wp_callV (N' := 103) (mm_siteIN (av := []) hC rfl lX9_60 rfl rfl (Nat.le_of_ble_eq_true rfl) dX9_init_86) (c_X2_init l (k + 0) _ _ _ _ (m14.fF hF (by decide)) (hA.le (by decide)) (m14.fR hR (by decide)) (fun r hr => hG r (by omega))) (by omega) (by decide) (by decide) (fun F8 A8 R8 G8 hq => ?_)
  obtain ⟨q8, e1, e2⟩ := hq; subst e1; subst e2
  have m15 : mk2 0 103 F R F8 R8 := mk2_sub m14 q8 (by decide) (by decide)
  refine wp_putRF fX9_61 (mm_fin (RX9, TX9, 11) rfl ⟨rfl, rfl⟩) rfl rfl (rfl) (by decide) dX9_init_89 ?_
  have m16 : mk2 0 103 F R F8 (u2 R8 0 7 (some 86)) := mk2_putR m15 (by decide)
  refine wp_aload_n dX9_init_92 rfl 0 rfl ?_
  refine wp_new (ci := 1) (C := RX1) (T := TX1) (n := 14) (ty := tyX1) hC (by decide) rfl rfl rfl inX1 tyX1_ok k_204 k_205 k_11 (mk_fv (m16.fF hF (by decide)) (m16.fR hR (by decide)) (fun r hr => hG r (by omega)) dfX1) dX9_init_93 ?_
  refine wp_dup dX9_init_96 rfl ?_
  refine wp_callV (N' := 113) (mm_siteIN (av := []) hC rfl lX9_67 rfl rfl (Nat.le_of_ble_eq_true rfl) dX9_init_97) (c_X1_initA l (k + 2) _ _ _ _ (m16.fF hF (by decide)) (hA.le (by decide)) (m16.fR hR (by decide)) (fun r hr => hG r (by omega))) (by omega) (by decide) (by decide) (fun F9 A9 R9 G9 hq => ?_)
  obtain ⟨q9, e1, e2⟩ := hq; subst e1; subst e2
  have m17 : mk2 0 113 F R F9 R9 := mk2_sub m16 q9 (by decide) (by decide)
  refine wp_putR fX9_68 fn_9_8 rfl (rfl) (by decide) dX9_init_100 ?_
  have m18 : mk2 0 113 F R F9 (u2 R9 0 8 (some 103)) := mk2_putR m17 (by decide)
  refine wp_aload_n dX9_init_103 rfl 0 rfl ?_
  refine wp_new (ci := 1) (C := RX1) (T := TX1) (n := 14) (ty := tyX1) hC (by decide) rfl rfl rfl inX1 tyX1_ok k_204 k_205 k_11 (mk_fv (m18.fF hF (by decide)) (m18.fR hR (by decide)) (fun r hr => hG r (by omega)) dfX1) dX9_init_104 ?_
  refine wp_dup dX9_init_107 rfl ?_
  refine wp_callV (N' := 123) (mm_siteIN (av := []) hC rfl lX9_67 rfl rfl (Nat.le_of_ble_eq_true rfl) dX9_init_108) (c_X1_initB l (k + 2) _ _ _ _ (m18.fF hF (by decide)) (hA.le (by decide)) (m18.fR hR (by decide)) (fun r hr => hG r (by omega))) (by omega) (by decide) (by decide) (fun F10 A10 R10 G10 hq => ?_)
  obtain ⟨q10, e1, e2⟩ := hq; subst e1; subst e2
  have m19 : mk2 0 123 F R F10 R10 := mk2_sub m18 q10 (by decide) (by decide)
  refine wp_putR fX9_72 fn_9_9 rfl (rfl) (by decide) dX9_init_111 ?_
  have m20 : mk2 0 123 F R F10 (u2 R10 0 9 (some 113)) := mk2_putR m19 (by decide)
  refine wp_aload_n dX9_init_114 rfl 0 rfl ?_
  refine wp_lconst (v := 0) dX9_init_115 rfl ?_
  refine wp_putL fX9_75 fn_9_10 rfl (ft9) (rfl) (by decide) dX9_init_116 ?_
  have rowF : F10 0 = FI 0 := by
    simp only [u2_row, (q1.2 0 (Or.inl (by decide))).1, (q1.2 0 (Or.inl (by decide))).2, (q2.2 0 (Or.inl (by decide))).1, (q2.2 0 (Or.inl (by decide))).2, (q3.2 0 (Or.inl (by decide))).1, (q3.2 0 (Or.inl (by decide))).2, (q4.2 0 (Or.inl (by decide))).1, (q4.2 0 (Or.inl (by decide))).2, (q5.2 0 (Or.inl (by decide))).1, (q5.2 0 (Or.inl (by decide))).2, (q6.2 0 (Or.inl (by decide))).1, (q6.2 0 (Or.inl (by decide))).2, (q7.2 0 (Or.inl (by decide))).1, (q7.2 0 (Or.inl (by decide))).2, (q8.2 0 (Or.inl (by decide))).1, (q8.2 0 (Or.inl (by decide))).2, (q9.2 0 (Or.inl (by decide))).1, (q9.2 0 (Or.inl (by decide))).2, (q10.2 0 (Or.inl (by decide))).1, (q10.2 0 (Or.inl (by decide))).2, hF 0 (Nat.le_refl _)]
    funext j
    rcases j with _|_|_|_|_|_|_|_|_|_|_|j <;> simp [va_up, FI, FIl, RI, show mm_K 0 = 9 from rfl, mm_off, mm_offl]
  have rowR : (u2 R10 0 9 (some 113)) 0 = RI 0 := by
    simp only [u2_row, (q1.2 0 (Or.inl (by decide))).1, (q1.2 0 (Or.inl (by decide))).2, (q2.2 0 (Or.inl (by decide))).1, (q2.2 0 (Or.inl (by decide))).2, (q3.2 0 (Or.inl (by decide))).1, (q3.2 0 (Or.inl (by decide))).2, (q4.2 0 (Or.inl (by decide))).1, (q4.2 0 (Or.inl (by decide))).2, (q5.2 0 (Or.inl (by decide))).1, (q5.2 0 (Or.inl (by decide))).2, (q6.2 0 (Or.inl (by decide))).1, (q6.2 0 (Or.inl (by decide))).2, (q7.2 0 (Or.inl (by decide))).1, (q7.2 0 (Or.inl (by decide))).2, (q8.2 0 (Or.inl (by decide))).1, (q8.2 0 (Or.inl (by decide))).2, (q9.2 0 (Or.inl (by decide))).1, (q9.2 0 (Or.inl (by decide))).2, (q10.2 0 (Or.inl (by decide))).1, (q10.2 0 (Or.inl (by decide))).2, hR 0 (Nat.le_refl _)]
    funext j
    rcases j with _|_|_|_|_|_|_|_|_|_|_|j <;> simp [va_up, FI, FIl, RI, show mm_K 0 = 9 from rfl, mm_off, mm_offl]
  exact wp_vret hC rfl dX9_init_119 (⟨rfl, mk2_end m20 rowF rowR, rfl, G_put0 (hG 0 (Nat.le_refl _))⟩)

set_option maxRecDepth 100000 in
set_option maxHeartbeats 600000 in
theorem c_X10_init (l : Launch) (k : Nat) (F A : mmF) (R : mmR) (G : mmG) (hF : fz 0 123 F) (hA : fz 0 123 A) (hR : fz none 123 R) (hG : ∀ r, 123 ≤ r → G r = 0) : Meets l hX10_init (k + 1) 124 144 [.ref 123] F A R G (pV (fun F1 A1 R1 G1 => mk1 123 144 F R F1 R1 ∧ u2 A 131 13 1 = A1 ∧ G = G1)) := by
  refine mm_start rfl (Nat.le_of_ble_eq_true rfl) (fun X hC => ?_)
  show WP hX10_init X 124 0 [(0, .ref 123)] [] F A R G
  have m0 : mk2 123 124 F R F R := mk2_start
  refine wp_aload_n dX10_init_0 rfl 0 rfl ?_
  refine wp_objInit hC (by omega) k_728 k_21 k_22 (Nat.le_of_ble_eq_true rfl) dX10_init_1 ?_
  refine wp_aload_n dX10_init_4 rfl 0 rfl ?_
  refine wp_bipush (v := 60) dX10_init_5 (by decide) ?_
  refine wp_newI (ty := .int) (n := 60) (t0 := 0) hC (by decide) (rfl) (rfl) (by decide) rfl (Or.inl ⟨rfl, rfl⟩) k_38 (hA _ (by decide)) dX10_init_7 ?_
  have m1 : mk2 123 125 F R F R := mk2_arr m0 hF hR (Or.inl rfl) (by decide)
  refine wp_putRF fX10_7 (mm_fin (RX10, TX10, 41) rfl ⟨rfl, rfl⟩) rfl rfl (rfl) (by decide) dX10_init_9 ?_
  have m2 : mk2 123 125 F R F (u2 R 123 1 (some 124)) := mk2_putR m1 (by decide)
  refine wp_aload_n dX10_init_12 rfl 0 rfl ?_
  refine wp_bipush (v := 15) dX10_init_13 (by decide) ?_
  refine wp_newI (ty := .int) (n := 15) (t0 := 0) hC (by decide) (rfl) (rfl) (by decide) rfl (Or.inl ⟨rfl, rfl⟩) k_38 (hA _ (by decide)) dX10_init_15 ?_
  have m3 : mk2 123 126 F R F (u2 R 123 1 (some 124)) := mk2_arr m2 hF hR (Or.inl rfl) (by decide)
  refine wp_putRF fX10_13 (mm_fin (RX10, TX10, 41) rfl ⟨rfl, rfl⟩) rfl rfl (rfl) (by decide) dX10_init_17 ?_
  have m4 : mk2 123 126 F R F (u2 (u2 R 123 1 (some 124)) 123 5 (some 125)) := mk2_putR m3 (by decide)
  refine wp_aload_n dX10_init_20 rfl 0 rfl ?_
  refine wp_bipush (v := 12) dX10_init_21 (by decide) ?_
  refine wp_newI (ty := .int) (n := 12) (t0 := 0) hC (by decide) (rfl) (rfl) (by decide) rfl (Or.inl ⟨rfl, rfl⟩) k_38 (hA _ (by decide)) dX10_init_23 ?_
  have m5 : mk2 123 127 F R F (u2 (u2 R 123 1 (some 124)) 123 5 (some 125)) := mk2_arr m4 hF hR (Or.inl rfl) (by decide)
  refine wp_putRF fX10_16 (mm_fin (RX10, TX10, 41) rfl ⟨rfl, rfl⟩) rfl rfl (rfl) (by decide) dX10_init_25 ?_
  have m6 : mk2 123 127 F R F (u2 (u2 (u2 R 123 1 (some 124)) 123 5 (some 125)) 123 7 (some 126)) := mk2_putR m5 (by decide)
  refine wp_aload_n dX10_init_28 rfl 0 rfl ?_
  refine wp_bipush (v := 12) dX10_init_29 (by decide) ?_
  refine wp_newI (ty := .int) (n := 12) (t0 := 0) hC (by decide) (rfl) (rfl) (by decide) rfl (Or.inl ⟨rfl, rfl⟩) k_38 (hA _ (by decide)) dX10_init_31 ?_
  have m7 : mk2 123 128 F R F (u2 (u2 (u2 R 123 1 (some 124)) 123 5 (some 125)) 123 7 (some 126)) := mk2_arr m6 hF hR (Or.inl rfl) (by decide)
  refine wp_putRF fX10_19 (mm_fin (RX10, TX10, 41) rfl ⟨rfl, rfl⟩) rfl rfl (rfl) (by decide) dX10_init_33 ?_
  have m8 : mk2 123 128 F R F (u2 (u2 (u2 (u2 R 123 1 (some 124)) 123 5 (some 125)) 123 7 (some 126)) 123 9 (some 127)) := mk2_putR m7 (by decide)
  refine wp_aload_n dX10_init_36 rfl 0 rfl ?_
  refine wp_bipush (v := 15) dX10_init_37 (by decide) ?_
  refine wp_newI (ty := .int) (n := 15) (t0 := 0) hC (by decide) (rfl) (rfl) (by decide) rfl (Or.inl ⟨rfl, rfl⟩) k_38 (hA _ (by decide)) dX10_init_39 ?_
  have m9 : mk2 123 129 F R F (u2 (u2 (u2 (u2 R 123 1 (some 124)) 123 5 (some 125)) 123 7 (some 126)) 123 9 (some 127)) := mk2_arr m8 hF hR (Or.inl rfl) (by decide)
  refine wp_putRF fX10_22 (mm_fin (RX10, TX10, 41) rfl ⟨rfl, rfl⟩) rfl rfl (rfl) (by decide) dX10_init_41 ?_
  have m10 : mk2 123 129 F R F (u2 (u2 (u2 (u2 (u2 R 123 1 (some 124)) 123 5 (some 125)) 123 7 (some 126)) 123 9 (some 127)) 123 13 (some 128)) := mk2_putR m9 (by decide)
  refine wp_aload_n dX10_init_44 rfl 0 rfl ?_
  refine wp_bipush (v := 12) dX10_init_45 (by decide) ?_
  refine wp_newI (ty := .int) (n := 12) (t0 := 0) hC (by decide) (rfl) (rfl) (by decide) rfl (Or.inl ⟨rfl, rfl⟩) k_38 (hA _ (by decide)) dX10_init_47 ?_
  have m11 : mk2 123 130 F R F (u2 (u2 (u2 (u2 (u2 R 123 1 (some 124)) 123 5 (some 125)) 123 7 (some 126)) 123 9 (some 127)) 123 13 (some 128)) := mk2_arr m10 hF hR (Or.inl rfl) (by decide)
  refine wp_putRF fX10_25 (mm_fin (RX10, TX10, 41) rfl ⟨rfl, rfl⟩) rfl rfl (rfl) (by decide) dX10_init_49 ?_
  have m12 : mk2 123 130 F R F (u2 (u2 (u2 (u2 (u2 (u2 R 123 1 (some 124)) 123 5 (some 125)) 123 7 (some 126)) 123 9 (some 127)) 123 13 (some 128)) 123 15 (some 129)) := mk2_putR m11 (by decide)
  refine wp_aload_n dX10_init_52 rfl 0 rfl ?_
  refine wp_bipush (v := 12) dX10_init_53 (by decide) ?_
  refine wp_newI (ty := .int) (n := 12) (t0 := 0) hC (by decide) (rfl) (rfl) (by decide) rfl (Or.inl ⟨rfl, rfl⟩) k_38 (hA _ (by decide)) dX10_init_55 ?_
  have m13 : mk2 123 131 F R F (u2 (u2 (u2 (u2 (u2 (u2 R 123 1 (some 124)) 123 5 (some 125)) 123 7 (some 126)) 123 9 (some 127)) 123 13 (some 128)) 123 15 (some 129)) := mk2_arr m12 hF hR (Or.inl rfl) (by decide)
  refine wp_putRF fX10_28 (mm_fin (RX10, TX10, 41) rfl ⟨rfl, rfl⟩) rfl rfl (rfl) (by decide) dX10_init_57 ?_
  have m14 : mk2 123 131 F R F (u2 (u2 (u2 (u2 (u2 (u2 (u2 R 123 1 (some 124)) 123 5 (some 125)) 123 7 (some 126)) 123 9 (some 127)) 123 13 (some 128)) 123 15 (some 129)) 123 17 (some 130)) := mk2_putR m13 (by decide)
  refine wp_aload_n dX10_init_60 rfl 0 rfl ?_
  refine wp_bipush (v := 15) dX10_init_61 (by decide) ?_
  refine wp_newI (ty := .int) (n := 15) (t0 := 0) hC (by decide) (rfl) (rfl) (by decide) rfl (Or.inl ⟨rfl, rfl⟩) k_38 (hA _ (by decide)) dX10_init_63 ?_
  have m15 : mk2 123 132 F R F (u2 (u2 (u2 (u2 (u2 (u2 (u2 R 123 1 (some 124)) 123 5 (some 125)) 123 7 (some 126)) 123 9 (some 127)) 123 13 (some 128)) 123 15 (some 129)) 123 17 (some 130)) := mk2_arr m14 hF hR (Or.inl rfl) (by decide)
  refine wp_putRF fX10_31 (mm_fin (RX10, TX10, 41) rfl ⟨rfl, rfl⟩) rfl rfl (rfl) (by decide) dX10_init_65 ?_
  have m16 : mk2 123 132 F R F (u2 (u2 (u2 (u2 (u2 (u2 (u2 (u2 R 123 1 (some 124)) 123 5 (some 125)) 123 7 (some 126)) 123 9 (some 127)) 123 13 (some 128)) 123 15 (some 129)) 123 17 (some 130)) 123 18 (some 131)) := mk2_putR m15 (by decide)
  refine wp_aload_n dX10_init_68 rfl 0 rfl ?_
  refine wp_bipush (v := 15) dX10_init_69 (by decide) ?_
  refine wp_newI (ty := .int) (n := 15) (t0 := 0) hC (by decide) (rfl) (rfl) (by decide) rfl (Or.inl ⟨rfl, rfl⟩) k_38 (hA _ (by decide)) dX10_init_71 ?_
  have m17 : mk2 123 133 F R F (u2 (u2 (u2 (u2 (u2 (u2 (u2 (u2 R 123 1 (some 124)) 123 5 (some 125)) 123 7 (some 126)) 123 9 (some 127)) 123 13 (some 128)) 123 15 (some 129)) 123 17 (some 130)) 123 18 (some 131)) := mk2_arr m16 hF hR (Or.inl rfl) (by decide)
  refine wp_putRF fX10_34 (mm_fin (RX10, TX10, 41) rfl ⟨rfl, rfl⟩) rfl rfl (rfl) (by decide) dX10_init_73 ?_
  have m18 : mk2 123 133 F R F (u2 (u2 (u2 (u2 (u2 (u2 (u2 (u2 (u2 R 123 1 (some 124)) 123 5 (some 125)) 123 7 (some 126)) 123 9 (some 127)) 123 13 (some 128)) 123 15 (some 129)) 123 17 (some 130)) 123 18 (some 131)) 123 19 (some 132)) := mk2_putR m17 (by decide)
  refine wp_aload_n dX10_init_76 rfl 0 rfl ?_
  refine wp_bipush (v := 15) dX10_init_77 (by decide) ?_
  refine wp_newI (ty := .int) (n := 15) (t0 := 0) hC (by decide) (rfl) (rfl) (by decide) rfl (Or.inl ⟨rfl, rfl⟩) k_38 (hA _ (by decide)) dX10_init_79 ?_
  have m19 : mk2 123 134 F R F (u2 (u2 (u2 (u2 (u2 (u2 (u2 (u2 (u2 R 123 1 (some 124)) 123 5 (some 125)) 123 7 (some 126)) 123 9 (some 127)) 123 13 (some 128)) 123 15 (some 129)) 123 17 (some 130)) 123 18 (some 131)) 123 19 (some 132)) := mk2_arr m18 hF hR (Or.inl rfl) (by decide)
  refine wp_putRF fX10_37 (mm_fin (RX10, TX10, 41) rfl ⟨rfl, rfl⟩) rfl rfl (rfl) (by decide) dX10_init_81 ?_
  have m20 : mk2 123 134 F R F (u2 (u2 (u2 (u2 (u2 (u2 (u2 (u2 (u2 (u2 R 123 1 (some 124)) 123 5 (some 125)) 123 7 (some 126)) 123 9 (some 127)) 123 13 (some 128)) 123 15 (some 129)) 123 17 (some 130)) 123 18 (some 131)) 123 19 (some 132)) 123 20 (some 133)) := mk2_putR m19 (by decide)
  refine wp_aload_n dX10_init_84 rfl 0 rfl ?_
  refine wp_sipush (v := 210) dX10_init_85 (by decide) ?_
  refine wp_newI (ty := .int) (n := 210) (t0 := 0) hC (by decide) (rfl) (rfl) (by decide) rfl (Or.inl ⟨rfl, rfl⟩) k_38 (hA _ (by decide)) dX10_init_88 ?_
  have m21 : mk2 123 135 F R F (u2 (u2 (u2 (u2 (u2 (u2 (u2 (u2 (u2 (u2 R 123 1 (some 124)) 123 5 (some 125)) 123 7 (some 126)) 123 9 (some 127)) 123 13 (some 128)) 123 15 (some 129)) 123 17 (some 130)) 123 18 (some 131)) 123 19 (some 132)) 123 20 (some 133)) := mk2_arr m20 hF hR (Or.inl rfl) (by decide)
  refine wp_putRF fX10_40 (mm_fin (RX10, TX10, 41) rfl ⟨rfl, rfl⟩) rfl rfl (rfl) (by decide) dX10_init_90 ?_
  have m22 : mk2 123 135 F R F (u2 (u2 (u2 (u2 (u2 (u2 (u2 (u2 (u2 (u2 (u2 R 123 1 (some 124)) 123 5 (some 125)) 123 7 (some 126)) 123 9 (some 127)) 123 13 (some 128)) 123 15 (some 129)) 123 17 (some 130)) 123 18 (some 131)) 123 19 (some 132)) 123 20 (some 133)) 123 21 (some 134)) := mk2_putR m21 (by decide)
  refine wp_aload_n dX10_init_93 rfl 0 rfl ?_
  refine wp_bipush (v := 30) dX10_init_94 (by decide) ?_
  refine wp_newI (ty := .int) (n := 30) (t0 := 0) hC (by decide) (rfl) (rfl) (by decide) rfl (Or.inl ⟨rfl, rfl⟩) k_38 (hA _ (by decide)) dX10_init_96 ?_
  have m23 : mk2 123 136 F R F (u2 (u2 (u2 (u2 (u2 (u2 (u2 (u2 (u2 (u2 (u2 R 123 1 (some 124)) 123 5 (some 125)) 123 7 (some 126)) 123 9 (some 127)) 123 13 (some 128)) 123 15 (some 129)) 123 17 (some 130)) 123 18 (some 131)) 123 19 (some 132)) 123 20 (some 133)) 123 21 (some 134)) := mk2_arr m22 hF hR (Or.inl rfl) (by decide)
  refine wp_putRF fX10_43 (mm_fin (RX10, TX10, 41) rfl ⟨rfl, rfl⟩) rfl rfl (rfl) (by decide) dX10_init_98 ?_
  have m24 : mk2 123 136 F R F (u2 (u2 (u2 (u2 (u2 (u2 (u2 (u2 (u2 (u2 (u2 (u2 R 123 1 (some 124)) 123 5 (some 125)) 123 7 (some 126)) 123 9 (some 127)) 123 13 (some 128)) 123 15 (some 129)) 123 17 (some 130)) 123 18 (some 131)) 123 19 (some 132)) 123 20 (some 133)) 123 21 (some 134)) 123 23 (some 135)) := mk2_putR m23 (by decide)
  refine wp_aload_n dX10_init_101 rfl 0 rfl ?_
  refine wp_iconst (v := 2) dX10_init_102 (by decide) ?_
  refine wp_newI (ty := .boolean) (n := 2) (t0 := 0) hC (by decide) (rfl) (rfl) (by decide) rfl (Or.inr ⟨rfl, rfl⟩) k_135 (hA _ (by decide)) dX10_init_103 ?_
  have m25 : mk2 123 137 F R F (u2 (u2 (u2 (u2 (u2 (u2 (u2 (u2 (u2 (u2 (u2 (u2 R 123 1 (some 124)) 123 5 (some 125)) 123 7 (some 126)) 123 9 (some 127)) 123 13 (some 128)) 123 15 (some 129)) 123 17 (some 130)) 123 18 (some 131)) 123 19 (some 132)) 123 20 (some 133)) 123 21 (some 134)) 123 23 (some 135)) := mk2_arr m24 hF hR (Or.inr rfl) (by decide)
  refine wp_putRF fX10_46 (mm_fin (RX10, TX10, 41) rfl ⟨rfl, rfl⟩) rfl rfl (rfl) (by decide) dX10_init_105 ?_
  have m26 : mk2 123 137 F R F (u2 (u2 (u2 (u2 (u2 (u2 (u2 (u2 (u2 (u2 (u2 (u2 (u2 R 123 1 (some 124)) 123 5 (some 125)) 123 7 (some 126)) 123 9 (some 127)) 123 13 (some 128)) 123 15 (some 129)) 123 17 (some 130)) 123 18 (some 131)) 123 19 (some 132)) 123 20 (some 133)) 123 21 (some 134)) 123 23 (some 135)) 123 24 (some 136)) := mk2_putR m25 (by decide)
  refine wp_aload_n dX10_init_108 rfl 0 rfl ?_
  refine wp_bipush (v := 6) dX10_init_109 (by decide) ?_
  refine wp_newI (ty := .int) (n := 6) (t0 := 0) hC (by decide) (rfl) (rfl) (by decide) rfl (Or.inl ⟨rfl, rfl⟩) k_38 (hA _ (by decide)) dX10_init_111 ?_
  have m27 : mk2 123 138 F R F (u2 (u2 (u2 (u2 (u2 (u2 (u2 (u2 (u2 (u2 (u2 (u2 (u2 R 123 1 (some 124)) 123 5 (some 125)) 123 7 (some 126)) 123 9 (some 127)) 123 13 (some 128)) 123 15 (some 129)) 123 17 (some 130)) 123 18 (some 131)) 123 19 (some 132)) 123 20 (some 133)) 123 21 (some 134)) 123 23 (some 135)) 123 24 (some 136)) := mk2_arr m26 hF hR (Or.inl rfl) (by decide)
  refine wp_putRF fX10_50 (mm_fin (RX10, TX10, 41) rfl ⟨rfl, rfl⟩) rfl rfl (rfl) (by decide) dX10_init_113 ?_
  have m28 : mk2 123 138 F R F (u2 (u2 (u2 (u2 (u2 (u2 (u2 (u2 (u2 (u2 (u2 (u2 (u2 (u2 R 123 1 (some 124)) 123 5 (some 125)) 123 7 (some 126)) 123 9 (some 127)) 123 13 (some 128)) 123 15 (some 129)) 123 17 (some 130)) 123 18 (some 131)) 123 19 (some 132)) 123 20 (some 133)) 123 21 (some 134)) 123 23 (some 135)) 123 24 (some 136)) 123 26 (some 137)) := mk2_putR m27 (by decide)
  refine wp_aload_n dX10_init_116 rfl 0 rfl ?_
  refine wp_bipush (v := 6) dX10_init_117 (by decide) ?_
  refine wp_newI (ty := .int) (n := 6) (t0 := 0) hC (by decide) (rfl) (rfl) (by decide) rfl (Or.inl ⟨rfl, rfl⟩) k_38 (hA _ (by decide)) dX10_init_119 ?_
  have m29 : mk2 123 139 F R F (u2 (u2 (u2 (u2 (u2 (u2 (u2 (u2 (u2 (u2 (u2 (u2 (u2 (u2 R 123 1 (some 124)) 123 5 (some 125)) 123 7 (some 126)) 123 9 (some 127)) 123 13 (some 128)) 123 15 (some 129)) 123 17 (some 130)) 123 18 (some 131)) 123 19 (some 132)) 123 20 (some 133)) 123 21 (some 134)) 123 23 (some 135)) 123 24 (some 136)) 123 26 (some 137)) := mk2_arr m28 hF hR (Or.inl rfl) (by decide)
  refine wp_putRF fX10_53 (mm_fin (RX10, TX10, 41) rfl ⟨rfl, rfl⟩) rfl rfl (rfl) (by decide) dX10_init_121 ?_
  have m30 : mk2 123 139 F R F (u2 (u2 (u2 (u2 (u2 (u2 (u2 (u2 (u2 (u2 (u2 (u2 (u2 (u2 (u2 R 123 1 (some 124)) 123 5 (some 125)) 123 7 (some 126)) 123 9 (some 127)) 123 13 (some 128)) 123 15 (some 129)) 123 17 (some 130)) 123 18 (some 131)) 123 19 (some 132)) 123 20 (some 133)) 123 21 (some 134)) 123 23 (some 135)) 123 24 (some 136)) 123 26 (some 137)) 123 27 (some 138)) := mk2_putR m29 (by decide)
  refine wp_aload_n dX10_init_124 rfl 0 rfl ?_
  refine wp_bipush (v := 6) dX10_init_125 (by decide) ?_
  refine wp_newI (ty := .int) (n := 6) (t0 := 0) hC (by decide) (rfl) (rfl) (by decide) rfl (Or.inl ⟨rfl, rfl⟩) k_38 (hA _ (by decide)) dX10_init_127 ?_
  have m31 : mk2 123 140 F R F (u2 (u2 (u2 (u2 (u2 (u2 (u2 (u2 (u2 (u2 (u2 (u2 (u2 (u2 (u2 R 123 1 (some 124)) 123 5 (some 125)) 123 7 (some 126)) 123 9 (some 127)) 123 13 (some 128)) 123 15 (some 129)) 123 17 (some 130)) 123 18 (some 131)) 123 19 (some 132)) 123 20 (some 133)) 123 21 (some 134)) 123 23 (some 135)) 123 24 (some 136)) 123 26 (some 137)) 123 27 (some 138)) := mk2_arr m30 hF hR (Or.inl rfl) (by decide)
  refine wp_putRF fX10_56 (mm_fin (RX10, TX10, 41) rfl ⟨rfl, rfl⟩) rfl rfl (rfl) (by decide) dX10_init_129 ?_
  have m32 : mk2 123 140 F R F (u2 (u2 (u2 (u2 (u2 (u2 (u2 (u2 (u2 (u2 (u2 (u2 (u2 (u2 (u2 (u2 R 123 1 (some 124)) 123 5 (some 125)) 123 7 (some 126)) 123 9 (some 127)) 123 13 (some 128)) 123 15 (some 129)) 123 17 (some 130)) 123 18 (some 131)) 123 19 (some 132)) 123 20 (some 133)) 123 21 (some 134)) 123 23 (some 135)) 123 24 (some 136)) 123 26 (some 137)) 123 27 (some 138)) 123 28 (some 139)) := mk2_putR m31 (by decide)
  refine wp_aload_n dX10_init_132 rfl 0 rfl ?_
  refine wp_bipush (v := 6) dX10_init_133 (by decide) ?_
  refine wp_newI (ty := .int) (n := 6) (t0 := 0) hC (by decide) (rfl) (rfl) (by decide) rfl (Or.inl ⟨rfl, rfl⟩) k_38 (hA _ (by decide)) dX10_init_135 ?_
  have m33 : mk2 123 141 F R F (u2 (u2 (u2 (u2 (u2 (u2 (u2 (u2 (u2 (u2 (u2 (u2 (u2 (u2 (u2 (u2 R 123 1 (some 124)) 123 5 (some 125)) 123 7 (some 126)) 123 9 (some 127)) 123 13 (some 128)) 123 15 (some 129)) 123 17 (some 130)) 123 18 (some 131)) 123 19 (some 132)) 123 20 (some 133)) 123 21 (some 134)) 123 23 (some 135)) 123 24 (some 136)) 123 26 (some 137)) 123 27 (some 138)) 123 28 (some 139)) := mk2_arr m32 hF hR (Or.inl rfl) (by decide)
  refine wp_putRF fX10_59 (mm_fin (RX10, TX10, 41) rfl ⟨rfl, rfl⟩) rfl rfl (rfl) (by decide) dX10_init_137 ?_
  have m34 : mk2 123 141 F R F (u2 (u2 (u2 (u2 (u2 (u2 (u2 (u2 (u2 (u2 (u2 (u2 (u2 (u2 (u2 (u2 (u2 R 123 1 (some 124)) 123 5 (some 125)) 123 7 (some 126)) 123 9 (some 127)) 123 13 (some 128)) 123 15 (some 129)) 123 17 (some 130)) 123 18 (some 131)) 123 19 (some 132)) 123 20 (some 133)) 123 21 (some 134)) 123 23 (some 135)) 123 24 (some 136)) 123 26 (some 137)) 123 27 (some 138)) 123 28 (some 139)) 123 31 (some 140)) := mk2_putR m33 (by decide)
  refine wp_aload_n dX10_init_140 rfl 0 rfl ?_
  refine wp_bipush (v := 6) dX10_init_141 (by decide) ?_
  refine wp_newI (ty := .int) (n := 6) (t0 := 0) hC (by decide) (rfl) (rfl) (by decide) rfl (Or.inl ⟨rfl, rfl⟩) k_38 (hA _ (by decide)) dX10_init_143 ?_
  have m35 : mk2 123 142 F R F (u2 (u2 (u2 (u2 (u2 (u2 (u2 (u2 (u2 (u2 (u2 (u2 (u2 (u2 (u2 (u2 (u2 R 123 1 (some 124)) 123 5 (some 125)) 123 7 (some 126)) 123 9 (some 127)) 123 13 (some 128)) 123 15 (some 129)) 123 17 (some 130)) 123 18 (some 131)) 123 19 (some 132)) 123 20 (some 133)) 123 21 (some 134)) 123 23 (some 135)) 123 24 (some 136)) 123 26 (some 137)) 123 27 (some 138)) 123 28 (some 139)) 123 31 (some 140)) := mk2_arr m34 hF hR (Or.inl rfl) (by decide)
  refine wp_putRF fX10_62 (mm_fin (RX10, TX10, 41) rfl ⟨rfl, rfl⟩) rfl rfl (rfl) (by decide) dX10_init_145 ?_
  have m36 : mk2 123 142 F R F (u2 (u2 (u2 (u2 (u2 (u2 (u2 (u2 (u2 (u2 (u2 (u2 (u2 (u2 (u2 (u2 (u2 (u2 R 123 1 (some 124)) 123 5 (some 125)) 123 7 (some 126)) 123 9 (some 127)) 123 13 (some 128)) 123 15 (some 129)) 123 17 (some 130)) 123 18 (some 131)) 123 19 (some 132)) 123 20 (some 133)) 123 21 (some 134)) 123 23 (some 135)) 123 24 (some 136)) 123 26 (some 137)) 123 27 (some 138)) 123 28 (some 139)) 123 31 (some 140)) 123 32 (some 141)) := mk2_putR m35 (by decide)
  refine wp_aload_n dX10_init_148 rfl 0 rfl ?_
  refine wp_bipush (v := 72) dX10_init_149 (by decide) ?_
  refine wp_newI (ty := .int) (n := 72) (t0 := 0) hC (by decide) (rfl) (rfl) (by decide) rfl (Or.inl ⟨rfl, rfl⟩) k_38 (hA _ (by decide)) dX10_init_151 ?_
  have m37 : mk2 123 143 F R F (u2 (u2 (u2 (u2 (u2 (u2 (u2 (u2 (u2 (u2 (u2 (u2 (u2 (u2 (u2 (u2 (u2 (u2 R 123 1 (some 124)) 123 5 (some 125)) 123 7 (some 126)) 123 9 (some 127)) 123 13 (some 128)) 123 15 (some 129)) 123 17 (some 130)) 123 18 (some 131)) 123 19 (some 132)) 123 20 (some 133)) 123 21 (some 134)) 123 23 (some 135)) 123 24 (some 136)) 123 26 (some 137)) 123 27 (some 138)) 123 28 (some 139)) 123 31 (some 140)) 123 32 (some 141)) := mk2_arr m36 hF hR (Or.inl rfl) (by decide)
  refine wp_putRF fX10_65 (mm_fin (RX10, TX10, 41) rfl ⟨rfl, rfl⟩) rfl rfl (rfl) (by decide) dX10_init_153 ?_
  have m38 : mk2 123 143 F R F (u2 (u2 (u2 (u2 (u2 (u2 (u2 (u2 (u2 (u2 (u2 (u2 (u2 (u2 (u2 (u2 (u2 (u2 (u2 R 123 1 (some 124)) 123 5 (some 125)) 123 7 (some 126)) 123 9 (some 127)) 123 13 (some 128)) 123 15 (some 129)) 123 17 (some 130)) 123 18 (some 131)) 123 19 (some 132)) 123 20 (some 133)) 123 21 (some 134)) 123 23 (some 135)) 123 24 (some 136)) 123 26 (some 137)) 123 27 (some 138)) 123 28 (some 139)) 123 31 (some 140)) 123 32 (some 141)) 123 39 (some 142)) := mk2_putR m37 (by decide)
  refine wp_aload_n dX10_init_156 rfl 0 rfl ?_
  refine wp_bipush (v := 16) dX10_init_157 (by decide) ?_
  refine wp_newI (ty := .int) (n := 16) (t0 := 0) hC (by decide) (rfl) (rfl) (by decide) rfl (Or.inl ⟨rfl, rfl⟩) k_38 (hA _ (by decide)) dX10_init_159 ?_
  have m39 : mk2 123 144 F R F (u2 (u2 (u2 (u2 (u2 (u2 (u2 (u2 (u2 (u2 (u2 (u2 (u2 (u2 (u2 (u2 (u2 (u2 (u2 R 123 1 (some 124)) 123 5 (some 125)) 123 7 (some 126)) 123 9 (some 127)) 123 13 (some 128)) 123 15 (some 129)) 123 17 (some 130)) 123 18 (some 131)) 123 19 (some 132)) 123 20 (some 133)) 123 21 (some 134)) 123 23 (some 135)) 123 24 (some 136)) 123 26 (some 137)) 123 27 (some 138)) 123 28 (some 139)) 123 31 (some 140)) 123 32 (some 141)) 123 39 (some 142)) := mk2_arr m38 hF hR (Or.inl rfl) (by decide)
  refine wp_putRF fX10_68 (mm_fin (RX10, TX10, 41) rfl ⟨rfl, rfl⟩) rfl rfl (rfl) (by decide) dX10_init_161 ?_
  have m40 : mk2 123 144 F R F (u2 (u2 (u2 (u2 (u2 (u2 (u2 (u2 (u2 (u2 (u2 (u2 (u2 (u2 (u2 (u2 (u2 (u2 (u2 (u2 R 123 1 (some 124)) 123 5 (some 125)) 123 7 (some 126)) 123 9 (some 127)) 123 13 (some 128)) 123 15 (some 129)) 123 17 (some 130)) 123 18 (some 131)) 123 19 (some 132)) 123 20 (some 133)) 123 21 (some 134)) 123 23 (some 135)) 123 24 (some 136)) 123 26 (some 137)) 123 27 (some 138)) 123 28 (some 139)) 123 31 (some 140)) 123 32 (some 141)) 123 39 (some 142)) 123 40 (some 143)) := mk2_putR m39 (by decide)
  refine wp_aload_n dX10_init_164 rfl 0 rfl ?_
  have rowR : (u2 (u2 (u2 (u2 (u2 (u2 (u2 (u2 (u2 (u2 (u2 (u2 (u2 (u2 (u2 (u2 (u2 (u2 (u2 (u2 R 123 1 (some 124)) 123 5 (some 125)) 123 7 (some 126)) 123 9 (some 127)) 123 13 (some 128)) 123 15 (some 129)) 123 17 (some 130)) 123 18 (some 131)) 123 19 (some 132)) 123 20 (some 133)) 123 21 (some 134)) 123 23 (some 135)) 123 24 (some 136)) 123 26 (some 137)) 123 27 (some 138)) 123 28 (some 139)) 123 31 (some 140)) 123 32 (some 141)) 123 39 (some 142)) 123 40 (some 143)) 123 = RI 123 := by
    simp only [u2_row, hR 123 (Nat.le_refl _)]
    funext j
    rcases j with _|_|_|_|_|_|_|_|_|_|_|_|_|_|_|_|_|_|_|_|_|_|_|_|_|_|_|_|_|_|_|_|_|_|_|_|_|_|_|_|_|j <;> simp [va_up, RI, show mm_K 123 = 10 from rfl, mm_off, mm_offl]
  refine wp_getR (q := 131) fX10_31 rfl rfl (by decide) (by rw [rowR]; rfl) dX10_init_165 ?_
  refine wp_bipush (v := 13) dX10_init_168 (by decide) ?_
  refine wp_iconst (v := 1) dX10_init_170 (by decide) ?_
  refine wp_iast 13 (rfl) (rfl) (by decide) ((show 13 < 15 from by omega)) dX10_init_171 ?_
  have rowF : F 123 = FI 123 := by
    rw [hF 123 (Nat.le_refl _)]; funext j; simp [FI, FIl, show mm_K 123 = 10 from rfl]
  exact wp_vret hC rfl dX10_init_172 (⟨rfl, mk2_end m40 rowF rowR, rfl, rfl⟩)
