/-! the constructors: what a new object holds -/
def FIl (K j : Nat) : Int32 := if K = 7 ∧ j = 5 then 1 else if K = 4 ∧ j = 2 then 1 else if K = 3 ∧ j = 4 then -9 else if K = 1 ∧ j = 12 then 1 else 0
def FI (r : Nat) : Nat → Int32 := fun j => FIl (mm_K r) j
def RI (r : Nat) : Nat → Option Nat := fun j => if mm_K r = 13 then (if j < mm_len r then some (r + 1 + 3 * j) else none) else if r = 0 ∧ j = 8 then some 103 else if r = 0 ∧ j = 9 then some 113 else if mm_off (mm_K r) j ≠ 0 then some (r + mm_off (mm_K r) j) else none
/-- from b on nothing is laid yet -/
def fz {α : Type} (d : α) (b : Nat) (f : Nat → Nat → α) : Prop := ∀ r, b ≤ r → f r = fun _ => d
def mk1 (a b : Nat) (F : mmF) (R : mmR) (F1 : mmF) (R1 : mmR) : Prop := (∀ r, a ≤ r → r < b → F1 r = FI r ∧ R1 r = RI r) ∧ ∀ r, r < a ∨ b ≤ r → F1 r = F r ∧ R1 r = R r
def mk2 (a c : Nat) (F : mmF) (R : mmR) (F1 : mmF) (R1 : mmR) : Prop := (∀ r, a < r → r < c → F1 r = FI r ∧ R1 r = RI r) ∧ ∀ r, r < a ∨ c ≤ r → F1 r = F r ∧ R1 r = R r
section MK
variable {a b c d j : Nat} {F F1 F2 A : mmF} {R R1 R2 : mmR} {G : mmG} {v : Int32} {o : Option Nat}
theorem fz.le {α : Type} {d : α} {f : Nat → Nat → α} (h : fz d b f) (hc : b ≤ c) : fz d c f := fun r hr => h r (Nat.le_trans hc hr)
theorem mk2_start : mk2 a (a + 1) F R F R := ⟨fun r h1 h2 => by omega, fun _ _ => ⟨rfl, rfl⟩⟩
theorem mk_row {r : Nat} (h : mm_K r = 11 ∨ mm_K r = 12) : FI r = (fun _ => 0) ∧ RI r = fun _ => none := by
  have h0 : r ≠ 0 := by rintro rfl; exact absurd h (by decide)
  refine ⟨funext fun j => ?_, funext fun j => ?_⟩
  · unfold FI FIl; rcases h with h | h <;> simp [h]
  · unfold RI mm_off; rcases h with h | h <;> simp [h, h0, mm_offl]
theorem mk2_arr (h : mk2 a c F R F1 R1) (hF : fz 0 a F) (hR : fz none a R) (hK : mm_K c = 11 ∨ mm_K c = 12) (hac : a < c) : mk2 a (c + 1) F R F1 R1 := by
  refine ⟨fun r h1 h2 => ?_, fun r hr => h.2 r (by omega)⟩
  rcases Nat.lt_or_ge r c with h3 | h3
  · exact h.1 r h1 h3
  · have e : r = c := by omega
    subst e
    rw [(h.2 r (Or.inr (Nat.le_refl _))).1, (h.2 r (Or.inr (Nat.le_refl _))).2, hF r (by omega), hR r (by omega)]
    exact ⟨(mk_row hK).1.symm, (mk_row hK).2.symm⟩
theorem mk2_putF (h : mk2 a c F R F1 R1) (hac : a < c) : mk2 a c F R (u2 F1 a j v) R1 := ⟨fun r h1 h2 => by rw [u2_ne (by omega)]; exact h.1 r h1 h2, fun r hr => by rw [u2_ne (by omega)]; exact h.2 r hr⟩
theorem mk2_putR (h : mk2 a c F R F1 R1) (hac : a < c) : mk2 a c F R F1 (u2 R1 a j o) := ⟨fun r h1 h2 => by rw [u2_ne (by omega)]; exact h.1 r h1 h2, fun r hr => by rw [u2_ne (by omega)]; exact h.2 r hr⟩
theorem mk2_sub (h : mk2 a c F R F1 R1) (h2 : mk1 c d F1 R1 F2 R2) (hac : a < c) (hcd : c ≤ d) : mk2 a d F R F2 R2 := by
  refine ⟨fun r h3 h4 => ?_, fun r hr => ?_⟩
  · rcases Nat.lt_or_ge r c with h5 | h5
    · rw [(h2.2 r (Or.inl h5)).1, (h2.2 r (Or.inl h5)).2]; exact h.1 r h3 h5
    · exact h2.1 r h5 h4
  · rw [(h2.2 r (by omega)).1, (h2.2 r (by omega)).2]; exact h.2 r (by omega)
theorem mk2_end (h : mk2 a c F R F1 R1) (h1 : F1 a = FI a) (h2 : R1 a = RI a) : mk1 a c F R F1 R1 := by
  refine ⟨fun r h3 h4 => ?_, h.2⟩
  rcases Nat.lt_or_ge a r with h5 | h5
  · exact h.1 r h5 h4
  · have e : r = a := by omega
    subst e; exact ⟨h1, h2⟩
theorem mk2.fF (h : mk2 a c F R F1 R1) (hF : fz 0 a F) (hac : a < c) : fz 0 c F1 := fun r hr => by rw [(h.2 r (Or.inr hr)).1]; exact hF r (by omega)
theorem mk2.fR (h : mk2 a c F R F1 R1) (hR : fz none a R) (hac : a < c) : fz none c R1 := fun r hr => by rw [(h.2 r (Or.inr hr)).2]; exact hR r (by omega)
theorem mk_fv {N ci n : Nat} {ty : Nat → FieldType} (hF : fz 0 N F) (hR : fz none N R) (hG : ∀ r, N ≤ r → G r = 0) (ht : ∀ j, j < n → defaultValue (ty j) = if mm_ft ci j = 0 then .int 0 else if mm_ft ci j = 1 then .null else .long 0) : ∀ b j, j < n → defaultValue (ty j) = mm_fv b F R G N ci j := by
  intro b j hj
  rw [ht j hj]; unfold mm_fv
  rw [hF N (Nat.le_refl _), hR N (Nat.le_refl _), hG N (Nat.le_refl _)]
  rfl
theorem mm_fin {ci j : Nat} {own : String} (q : vw_C) (h : vwCl[ci]? = some q) (h1 : (q.2.1 j).2.2.2 = true ∧ (q.2.1 j).1 = own) : ∀ z, vwCl[ci]? = some z → (z.2.1 j).2.2.2 = true ∧ (z.2.1 j).1 = own := by
  intro z hz
  have e : q = z := Option.some.inj (h.symm.trans hz)
  subst e; exact h1
end MK
def pN (q : Nat) (Pv : mmF → mmF → mmR → mmG → Prop) : mmP := fun v F1 A1 R1 G1 => v = some (.ref q) ∧ Pv F1 A1 R1 G1
section MKC
variable {Y : mmY} {X : mmX} {N pc : Nat} {lv : List (Nat × Value)} {st : List Value} {F A : mmF} {R : mmR} {G : mmG} {l : Launch} {k N1 : Nat}
theorem wp_callN {Z : mmY} {av st0 : List Value} {k' N' q : Nat} {Pv : mmF → mmF → mmR → mmG → Prop} (hs : mm_Site Y X N pc lv st0 st Z av l k N1 F A R G) (hM : Meets l Z k' N N' av F A R G (pN q Pv)) (hk : k' + 1 ≤ k) (hN1 : N ≤ N') (hN : N' ≤ N1) (kk : ∀ F1 A1 R1 G1, Pv F1 A1 R1 G1 → WP Y X N' (pc + 3) lv (.ref q :: st) F1 A1 R1 G1) : WP Y X N pc lv st0 F A R G :=
  hs _ _ _ hM hk hN1 hN (fun v F1 A1 R1 G1 ⟨h1, h2⟩ => by subst h1; exact kk F1 A1 R1 G1 h2)
end MKC
theorem dfX0 : ∀ j, j < 3 → defaultValue (tyX0 j) = if mm_ft 0 j = 0 then .int 0 else if mm_ft 0 j = 1 then .null else .long 0
  | 0, _ => rfl
  | 1, _ => rfl
  | 2, _ => rfl
  | j + 3, h => absurd h (by omega)

theorem dfX1 : ∀ j, j < 14 → defaultValue (tyX1 j) = if mm_ft 1 j = 0 then .int 0 else if mm_ft 1 j = 1 then .null else .long 0
  | 0, _ => rfl
  | 1, _ => rfl
  | 2, _ => rfl
  | 3, _ => rfl
  | 4, _ => rfl
  | 5, _ => rfl
  | 6, _ => rfl
  | 7, _ => rfl
  | 8, _ => rfl
  | 9, _ => rfl
  | 10, _ => rfl
  | 11, _ => rfl
  | 12, _ => rfl
  | 13, _ => rfl
  | j + 14, h => absurd h (by omega)

theorem dfX2 : ∀ j, j < 4 → defaultValue (tyX2 j) = if mm_ft 2 j = 0 then .int 0 else if mm_ft 2 j = 1 then .null else .long 0
  | 0, _ => rfl
  | 1, _ => rfl
  | 2, _ => rfl
  | 3, _ => rfl
  | j + 4, h => absurd h (by omega)

theorem dfX3 : ∀ j, j < 5 → defaultValue (tyX3 j) = if mm_ft 3 j = 0 then .int 0 else if mm_ft 3 j = 1 then .null else .long 0
  | 0, _ => rfl
  | 1, _ => rfl
  | 2, _ => rfl
  | 3, _ => rfl
  | 4, _ => rfl
  | j + 5, h => absurd h (by omega)

theorem dfX4 : ∀ j, j < 3 → defaultValue (tyX4 j) = if mm_ft 4 j = 0 then .int 0 else if mm_ft 4 j = 1 then .null else .long 0
  | 0, _ => rfl
  | 1, _ => rfl
  | 2, _ => rfl
  | j + 3, h => absurd h (by omega)

theorem dfX5 : ∀ j, j < 4 → defaultValue (tyX5 j) = if mm_ft 5 j = 0 then .int 0 else if mm_ft 5 j = 1 then .null else .long 0
  | 0, _ => rfl
  | 1, _ => rfl
  | 2, _ => rfl
  | 3, _ => rfl
  | j + 4, h => absurd h (by omega)

theorem dfX6 : ∀ j, j < 2 → defaultValue (tyX6 j) = if mm_ft 6 j = 0 then .int 0 else if mm_ft 6 j = 1 then .null else .long 0
  | 0, _ => rfl
  | 1, _ => rfl
  | j + 2, h => absurd h (by omega)

theorem dfX7 : ∀ j, j < 7 → defaultValue (tyX7 j) = if mm_ft 7 j = 0 then .int 0 else if mm_ft 7 j = 1 then .null else .long 0
  | 0, _ => rfl
  | 1, _ => rfl
  | 2, _ => rfl
  | 3, _ => rfl
  | 4, _ => rfl
  | 5, _ => rfl
  | 6, _ => rfl
  | j + 7, h => absurd h (by omega)

theorem dfX8 : ∀ j, j < 2 → defaultValue (tyX8 j) = if mm_ft 8 j = 0 then .int 0 else if mm_ft 8 j = 1 then .null else .long 0
  | 0, _ => rfl
  | 1, _ => rfl
  | j + 2, h => absurd h (by omega)

theorem dfX9 : ∀ j, j < 11 → defaultValue (tyX9 j) = if mm_ft 9 j = 0 then .int 0 else if mm_ft 9 j = 1 then .null else .long 0
  | 0, _ => rfl
  | 1, _ => rfl
  | 2, _ => rfl
  | 3, _ => rfl
  | 4, _ => rfl
  | 5, _ => rfl
  | 6, _ => rfl
  | 7, _ => rfl
  | 8, _ => rfl
  | 9, _ => rfl
  | 10, _ => rfl
  | j + 11, h => absurd h (by omega)

theorem dfX10 : ∀ j, j < 41 → defaultValue (tyX10 j) = if mm_ft 10 j = 0 then .int 0 else if mm_ft 10 j = 1 then .null else .long 0
  | 0, _ => rfl
  | 1, _ => rfl
  | 2, _ => rfl
  | 3, _ => rfl
  | 4, _ => rfl
  | 5, _ => rfl
  | 6, _ => rfl
  | 7, _ => rfl
  | 8, _ => rfl
  | 9, _ => rfl
  | 10, _ => rfl
  | 11, _ => rfl
  | 12, _ => rfl
  | 13, _ => rfl
  | 14, _ => rfl
  | 15, _ => rfl
  | 16, _ => rfl
  | 17, _ => rfl
  | 18, _ => rfl
  | 19, _ => rfl
  | 20, _ => rfl
  | 21, _ => rfl
  | 22, _ => rfl
  | 23, _ => rfl
  | 24, _ => rfl
  | 25, _ => rfl
  | 26, _ => rfl
  | 27, _ => rfl
  | 28, _ => rfl
  | 29, _ => rfl
  | 30, _ => rfl
  | 31, _ => rfl
  | 32, _ => rfl
  | 33, _ => rfl
  | 34, _ => rfl
  | 35, _ => rfl
  | 36, _ => rfl
  | 37, _ => rfl
  | 38, _ => rfl
  | 39, _ => rfl
  | 40, _ => rfl
  | j + 41, h => absurd h (by omega)

set_option maxRecDepth 100000 in
set_option maxHeartbeats 600000 in
theorem c_X7_init (l : Launch) (k : Nat) (F A : mmF) (R : mmR) (G : mmG) (a : Nat) (hK : mm_K a = 7) (hF : fz 0 a F) (hA : fz 0 a A) (hR : fz none a R) (hG : ∀ r, a ≤ r → G r = 0) : Meets l hX7_init (k + 1) (a + 1) (a + 3) [.ref a] F A R G (pV (fun F1 A1 R1 G1 => mk1 a (a + 3) F R F1 R1 ∧ A = A1 ∧ G = G1)) := by
  refine mm_start rfl (Nat.le_of_ble_eq_true rfl) (fun X hC => ?_)
  show WP hX7_init X (a + 1) 0 [(0, .ref a)] [] F A R G
  have m0 : mk2 a (a + 1) F R F R := mk2_start
  refine wp_aload_n dX7_init_0 rfl 0 rfl ?_
  refine wp_objInit hC (by omega) k_44 k_21 k_22 (Nat.le_of_ble_eq_true rfl) dX7_init_1 ?_
  refine wp_aload_n dX7_init_4 rfl 0 rfl ?_
  refine wp_iconst (v := 5) dX7_init_5 (by decide) ?_
  refine wp_newI (ty := .int) (n := 5) (t0 := 0) hC (by omega) (rfl) ((st_f hK).1.2) (by decide) rfl (Or.inl ⟨rfl, (st_f hK).1.1⟩) k_38 (hA _ (by omega)) dX7_init_6 ?_
  have m1 : mk2 a (a + 2) F R F R := mk2_arr m0 hF hR (Or.inl ((st_f hK).1.1)) (by omega)
  refine wp_putRF fX7_9 (mm_fin (RX7, TX7, 7) rfl ⟨rfl, rfl⟩) rfl rfl (hK) (by omega) dX7_init_8 ?_
  have m2 : mk2 a (a + 2) F R F (u2 R a 0 (some (a + 1))) := mk2_putR m1 (by omega)
  refine wp_aload_n dX7_init_11 rfl 0 rfl ?_
  refine wp_iconst (v := 5) dX7_init_12 (by decide) ?_
  refine wp_newI (ty := .int) (n := 5) (t0 := 0) hC (by omega) (rfl) ((st_f hK).2.1.2) (by decide) rfl (Or.inl ⟨rfl, (st_f hK).2.1.1⟩) k_38 (hA _ (by omega)) dX7_init_13 ?_
  have m3 : mk2 a (a + 3) F R F (u2 R a 0 (some (a + 1))) := mk2_arr m2 hF hR (Or.inl ((st_f hK).2.1.1)) (by omega)
  refine wp_putRF fX7_15 (mm_fin (RX7, TX7, 7) rfl ⟨rfl, rfl⟩) rfl rfl (hK) (by omega) dX7_init_15 ?_
  have m4 : mk2 a (a + 3) F R F (u2 (u2 R a 0 (some (a + 1))) a 1 (some (a + 2))) := mk2_putR m3 (by omega)
  refine wp_aload_n dX7_init_18 rfl 0 rfl ?_
  refine wp_iconst (v := 0) dX7_init_19 (by decide) ?_
  refine wp_putI fX7_18 fn_7_2 rfl (hK) (by omega) dX7_init_20 ?_
  have m5 : mk2 a (a + 3) F R (u2 F a 2 0) (u2 (u2 R a 0 (some (a + 1))) a 1 (some (a + 2))) := mk2_putF m4 (by omega)
  refine wp_aload_n dX7_init_23 rfl 0 rfl ?_
  refine wp_iconst (v := 0) dX7_init_24 (by decide) ?_
  refine wp_putI fX7_22 fn_7_3 rfl (hK) (by omega) dX7_init_25 ?_
  have m6 : mk2 a (a + 3) F R (u2 (u2 F a 2 0) a 3 0) (u2 (u2 R a 0 (some (a + 1))) a 1 (some (a + 2))) := mk2_putF m5 (by omega)
  refine wp_aload_n dX7_init_28 rfl 0 rfl ?_
  refine wp_iconst (v := 0) dX7_init_29 (by decide) ?_
  refine wp_putI fX7_25 fn_7_4 rfl (hK) (by omega) dX7_init_30 ?_
  have m7 : mk2 a (a + 3) F R (u2 (u2 (u2 F a 2 0) a 3 0) a 4 0) (u2 (u2 R a 0 (some (a + 1))) a 1 (some (a + 2))) := mk2_putF m6 (by omega)
  refine wp_aload_n dX7_init_33 rfl 0 rfl ?_
  refine wp_iconst (v := 1) dX7_init_34 (by decide) ?_
  refine wp_putI fX7_28 fn_7_5 rfl (hK) (by omega) dX7_init_35 ?_
  have m8 : mk2 a (a + 3) F R (u2 (u2 (u2 (u2 F a 2 0) a 3 0) a 4 0) a 5 1) (u2 (u2 R a 0 (some (a + 1))) a 1 (some (a + 2))) := mk2_putF m7 (by omega)
  refine wp_aload_n dX7_init_38 rfl 0 rfl ?_
  refine wp_iconst (v := 0) dX7_init_39 (by decide) ?_
  refine wp_putI fX7_31 fn_7_6 rfl (hK) (by omega) dX7_init_40 ?_
  have m9 : mk2 a (a + 3) F R (u2 (u2 (u2 (u2 (u2 F a 2 0) a 3 0) a 4 0) a 5 1) a 6 0) (u2 (u2 R a 0 (some (a + 1))) a 1 (some (a + 2))) := mk2_putF m8 (by omega)
  have rowF : (u2 (u2 (u2 (u2 (u2 F a 2 0) a 3 0) a 4 0) a 5 1) a 6 0) a = FI a := by
    simp only [u2_row, hF a (Nat.le_refl _)]
    funext j
    rcases j with _|_|_|_|_|_|_|j <;> simp [va_up, FI, FIl, RI, hK, mm_off, mm_offl, show a ≠ 0 by have := st_f hK; omega]
  have rowR : (u2 (u2 R a 0 (some (a + 1))) a 1 (some (a + 2))) a = RI a := by
    simp only [u2_row, hR a (Nat.le_refl _)]
    funext j
    rcases j with _|_|_|_|_|_|_|j <;> simp [va_up, FI, FIl, RI, hK, mm_off, mm_offl, show a ≠ 0 by have := st_f hK; omega]
  exact wp_vret hC rfl dX7_init_43 (⟨rfl, mk2_end m9 rowF rowR, rfl, rfl⟩)

set_option maxRecDepth 100000 in
set_option maxHeartbeats 600000 in
theorem c_X8_init (l : Launch) (k : Nat) (F A : mmF) (R : mmR) (G : mmG) (hF : fz 0 1 F) (hA : fz 0 1 A) (hR : fz none 1 R) (hG : ∀ r, 1 ≤ r → G r = 0) : Meets l hX8_init (k + 1) 2 3 [.ref 1] F A R G (pV (fun F1 A1 R1 G1 => mk1 1 3 F R F1 R1 ∧ A = A1 ∧ G = G1)) := by
  refine mm_start rfl (Nat.le_of_ble_eq_true rfl) (fun X hC => ?_)
  show WP hX8_init X 2 0 [(0, .ref 1)] [] F A R G
  have m0 : mk2 1 2 F R F R := mk2_start
  refine wp_aload_n dX8_init_0 rfl 0 rfl ?_
  refine wp_objInit hC (by omega) k_28 k_21 k_22 (Nat.le_of_ble_eq_true rfl) dX8_init_1 ?_
  refine wp_aload_n dX8_init_4 rfl 0 rfl ?_
  refine wp_bipush (v := 60) dX8_init_5 (by decide) ?_
  refine wp_newI (ty := .int) (n := 60) (t0 := 0) hC (by decide) (rfl) (rfl) (by decide) rfl (Or.inl ⟨rfl, rfl⟩) k_38 (hA _ (by decide)) dX8_init_7 ?_
  have m1 : mk2 1 3 F R F R := mk2_arr m0 hF hR (Or.inl rfl) (by decide)
  refine wp_putRF fX8_9 (mm_fin (RX8, TX8, 2) rfl ⟨rfl, rfl⟩) rfl rfl (rfl) (by decide) dX8_init_9 ?_
  have m2 : mk2 1 3 F R F (u2 R 1 0 (some 2)) := mk2_putR m1 (by decide)
  refine wp_aload_n dX8_init_12 rfl 0 rfl ?_
  refine wp_iconst (v := 0) dX8_init_13 (by decide) ?_
  refine wp_putI fX8_15 fn_8_1 rfl (rfl) (by decide) dX8_init_14 ?_
  have m3 : mk2 1 3 F R (u2 F 1 1 0) (u2 R 1 0 (some 2)) := mk2_putF m2 (by decide)
  have rowF : (u2 F 1 1 0) 1 = FI 1 := by
    simp only [u2_row, hF 1 (Nat.le_refl _)]
    funext j
    rcases j with _|_|j <;> simp [va_up, FI, FIl, RI, show mm_K 1 = 8 from rfl, mm_off, mm_offl]
  have rowR : (u2 R 1 0 (some 2)) 1 = RI 1 := by
    simp only [u2_row, hR 1 (Nat.le_refl _)]
    funext j
    rcases j with _|_|j <;> simp [va_up, FI, FIl, RI, show mm_K 1 = 8 from rfl, mm_off, mm_offl]
  exact wp_vret hC rfl dX8_init_17 (⟨rfl, mk2_end m3 rowF rowR, rfl, rfl⟩)

set_option maxRecDepth 100000 in
set_option maxHeartbeats 600000 in
theorem c_X5_init (l : Launch) (k : Nat) (F A : mmF) (R : mmR) (G : mmG) (hF : fz 0 50 F) (hA : fz 0 50 A) (hR : fz none 50 R) (hG : ∀ r, 50 ≤ r → G r = 0) : Meets l hX5_init (k + 1) 51 54 [.ref 50] F A R G (pV (fun F1 A1 R1 G1 => mk1 50 54 F R F1 R1 ∧ A = A1 ∧ G = G1)) := by
  refine mm_start rfl (Nat.le_of_ble_eq_true rfl) (fun X hC => ?_)
  show WP hX5_init X 51 0 [(0, .ref 50)] [] F A R G
  have m0 : mk2 50 51 F R F R := mk2_start
  refine wp_aload_n dX5_init_0 rfl 0 rfl ?_
  refine wp_objInit hC (by omega) k_106 k_21 k_22 (Nat.le_of_ble_eq_true rfl) dX5_init_1 ?_
  refine wp_aload_n dX5_init_4 rfl 0 rfl ?_
  refine wp_bipush (v := 6) dX5_init_5 (by decide) ?_
  refine wp_newI (ty := .int) (n := 6) (t0 := 0) hC (by decide) (rfl) (rfl) (by decide) rfl (Or.inl ⟨rfl, rfl⟩) k_38 (hA _ (by decide)) dX5_init_7 ?_
  have m1 : mk2 50 52 F R F R := mk2_arr m0 hF hR (Or.inl rfl) (by decide)
  refine wp_putRF fX5_9 (mm_fin (RX5, TX5, 4) rfl ⟨rfl, rfl⟩) rfl rfl (rfl) (by decide) dX5_init_9 ?_
  have m2 : mk2 50 52 F R F (u2 R 50 0 (some 51)) := mk2_putR m1 (by decide)
  refine wp_aload_n dX5_init_12 rfl 0 rfl ?_
  refine wp_bipush (v := 6) dX5_init_13 (by decide) ?_
  refine wp_newI (ty := .int) (n := 6) (t0 := 0) hC (by decide) (rfl) (rfl) (by decide) rfl (Or.inl ⟨rfl, rfl⟩) k_38 (hA _ (by decide)) dX5_init_15 ?_
  have m3 : mk2 50 53 F R F (u2 R 50 0 (some 51)) := mk2_arr m2 hF hR (Or.inl rfl) (by decide)
  refine wp_putRF fX5_15 (mm_fin (RX5, TX5, 4) rfl ⟨rfl, rfl⟩) rfl rfl (rfl) (by decide) dX5_init_17 ?_
  have m4 : mk2 50 53 F R F (u2 (u2 R 50 0 (some 51)) 50 1 (some 52)) := mk2_putR m3 (by decide)
  refine wp_aload_n dX5_init_20 rfl 0 rfl ?_
  refine wp_bipush (v := 6) dX5_init_21 (by decide) ?_
  refine wp_newI (ty := .int) (n := 6) (t0 := 0) hC (by decide) (rfl) (rfl) (by decide) rfl (Or.inl ⟨rfl, rfl⟩) k_38 (hA _ (by decide)) dX5_init_23 ?_
  have m5 : mk2 50 54 F R F (u2 (u2 R 50 0 (some 51)) 50 1 (some 52)) := mk2_arr m4 hF hR (Or.inl rfl) (by decide)
  refine wp_putRF fX5_18 (mm_fin (RX5, TX5, 4) rfl ⟨rfl, rfl⟩) rfl rfl (rfl) (by decide) dX5_init_25 ?_
  have m6 : mk2 50 54 F R F (u2 (u2 (u2 R 50 0 (some 51)) 50 1 (some 52)) 50 2 (some 53)) := mk2_putR m5 (by decide)
  refine wp_aload_n dX5_init_28 rfl 0 rfl ?_
  refine wp_iconst (v := 0) dX5_init_29 (by decide) ?_
  refine wp_putI fX5_21 fn_5_3 rfl (rfl) (by decide) dX5_init_30 ?_
  have m7 : mk2 50 54 F R (u2 F 50 3 0) (u2 (u2 (u2 R 50 0 (some 51)) 50 1 (some 52)) 50 2 (some 53)) := mk2_putF m6 (by decide)
  have rowF : (u2 F 50 3 0) 50 = FI 50 := by
    simp only [u2_row, hF 50 (Nat.le_refl _)]
    funext j
    rcases j with _|_|_|_|j <;> simp [va_up, FI, FIl, RI, show mm_K 50 = 5 from rfl, mm_off, mm_offl]
  have rowR : (u2 (u2 (u2 R 50 0 (some 51)) 50 1 (some 52)) 50 2 (some 53)) 50 = RI 50 := by
    simp only [u2_row, hR 50 (Nat.le_refl _)]
    funext j
    rcases j with _|_|_|_|j <;> simp [va_up, FI, FIl, RI, show mm_K 50 = 5 from rfl, mm_off, mm_offl]
  exact wp_vret hC rfl dX5_init_33 (⟨rfl, mk2_end m7 rowF rowR, rfl, rfl⟩)

set_option maxRecDepth 100000 in
set_option maxHeartbeats 600000 in
theorem c_X1_initA (l : Launch) (k : Nat) (F A : mmF) (R : mmR) (G : mmG) (hF : fz 0 103 F) (hA : fz 0 103 A) (hR : fz none 103 R) (hG : ∀ r, 103 ≤ r → G r = 0) : Meets l hX1_init (k + 1) 104 113 [.ref 103] F A R G (pV (fun F1 A1 R1 G1 => mk1 103 113 F R F1 R1 ∧ A = A1 ∧ G = G1)) := by
  refine mm_start rfl (Nat.le_of_ble_eq_true rfl) (fun X hC => ?_)
  show WP hX1_init X 104 0 [(0, .ref 103)] [] F A R G
  have m0 : mk2 103 104 F R F R := mk2_start
  refine wp_aload_n dX1_init_0 rfl 0 rfl ?_
  refine wp_objInit hC (by omega) k_209 k_21 k_22 (Nat.le_of_ble_eq_true rfl) dX1_init_1 ?_
  refine wp_aload_n dX1_init_4 rfl 0 rfl ?_
  refine wp_iconst (v := 5) dX1_init_5 (by decide) ?_
  refine wp_newI (ty := .int) (n := 5) (t0 := 0) hC (by decide) (rfl) (rfl) (by decide) rfl (Or.inl ⟨rfl, rfl⟩) k_38 (hA _ (by decide)) dX1_init_6 ?_
  have m1 : mk2 103 105 F R F R := mk2_arr m0 hF hR (Or.inl rfl) (by decide)
  refine wp_putRF fX1_9 (mm_fin (RX1, TX1, 14) rfl ⟨rfl, rfl⟩) rfl rfl (rfl) (by decide) dX1_init_8 ?_
  have m2 : mk2 103 105 F R F (u2 R 103 0 (some 104)) := mk2_putR m1 (by decide)
  refine wp_aload_n dX1_init_11 rfl 0 rfl ?_
  refine wp_iconst (v := 5) dX1_init_12 (by decide) ?_
  refine wp_newI (ty := .int) (n := 5) (t0 := 0) hC (by decide) (rfl) (rfl) (by decide) rfl (Or.inl ⟨rfl, rfl⟩) k_38 (hA _ (by decide)) dX1_init_13 ?_
  have m3 : mk2 103 106 F R F (u2 R 103 0 (some 104)) := mk2_arr m2 hF hR (Or.inl rfl) (by decide)
  refine wp_putRF fX1_15 (mm_fin (RX1, TX1, 14) rfl ⟨rfl, rfl⟩) rfl rfl (rfl) (by decide) dX1_init_15 ?_
  have m4 : mk2 103 106 F R F (u2 (u2 R 103 0 (some 104)) 103 1 (some 105)) := mk2_putR m3 (by decide)
  refine wp_aload_n dX1_init_18 rfl 0 rfl ?_
  refine wp_iconst (v := 5) dX1_init_19 (by decide) ?_
  refine wp_newI (ty := .int) (n := 5) (t0 := 0) hC (by decide) (rfl) (rfl) (by decide) rfl (Or.inl ⟨rfl, rfl⟩) k_38 (hA _ (by decide)) dX1_init_20 ?_
  have m5 : mk2 103 107 F R F (u2 (u2 R 103 0 (some 104)) 103 1 (some 105)) := mk2_arr m4 hF hR (Or.inl rfl) (by decide)
  refine wp_putRF fX1_18 (mm_fin (RX1, TX1, 14) rfl ⟨rfl, rfl⟩) rfl rfl (rfl) (by decide) dX1_init_22 ?_
  have m6 : mk2 103 107 F R F (u2 (u2 (u2 R 103 0 (some 104)) 103 1 (some 105)) 103 2 (some 106)) := mk2_putR m5 (by decide)
  refine wp_aload_n dX1_init_25 rfl 0 rfl ?_
  refine wp_iconst (v := 4) dX1_init_26 (by decide) ?_
  refine wp_newI (ty := .int) (n := 4) (t0 := 0) hC (by decide) (rfl) (rfl) (by decide) rfl (Or.inl ⟨rfl, rfl⟩) k_38 (hA _ (by decide)) dX1_init_27 ?_
  have m7 : mk2 103 108 F R F (u2 (u2 (u2 R 103 0 (some 104)) 103 1 (some 105)) 103 2 (some 106)) := mk2_arr m6 hF hR (Or.inl rfl) (by decide)
  refine wp_putRF fX1_21 (mm_fin (RX1, TX1, 14) rfl ⟨rfl, rfl⟩) rfl rfl (rfl) (by decide) dX1_init_29 ?_
  have m8 : mk2 103 108 F R F (u2 (u2 (u2 (u2 R 103 0 (some 104)) 103 1 (some 105)) 103 2 (some 106)) 103 3 (some 107)) := mk2_putR m7 (by decide)
  refine wp_aload_n dX1_init_32 rfl 0 rfl ?_
  refine wp_iconst (v := 4) dX1_init_33 (by decide) ?_
  refine wp_newI (ty := .int) (n := 4) (t0 := 0) hC (by decide) (rfl) (rfl) (by decide) rfl (Or.inl ⟨rfl, rfl⟩) k_38 (hA _ (by decide)) dX1_init_34 ?_
  have m9 : mk2 103 109 F R F (u2 (u2 (u2 (u2 R 103 0 (some 104)) 103 1 (some 105)) 103 2 (some 106)) 103 3 (some 107)) := mk2_arr m8 hF hR (Or.inl rfl) (by decide)
  refine wp_putRF fX1_24 (mm_fin (RX1, TX1, 14) rfl ⟨rfl, rfl⟩) rfl rfl (rfl) (by decide) dX1_init_36 ?_
  have m10 : mk2 103 109 F R F (u2 (u2 (u2 (u2 (u2 R 103 0 (some 104)) 103 1 (some 105)) 103 2 (some 106)) 103 3 (some 107)) 103 4 (some 108)) := mk2_putR m9 (by decide)
  refine wp_aload_n dX1_init_39 rfl 0 rfl ?_
  refine wp_iconst (v := 4) dX1_init_40 (by decide) ?_
  refine wp_newI (ty := .int) (n := 4) (t0 := 0) hC (by decide) (rfl) (rfl) (by decide) rfl (Or.inl ⟨rfl, rfl⟩) k_38 (hA _ (by decide)) dX1_init_41 ?_
  have m11 : mk2 103 110 F R F (u2 (u2 (u2 (u2 (u2 R 103 0 (some 104)) 103 1 (some 105)) 103 2 (some 106)) 103 3 (some 107)) 103 4 (some 108)) := mk2_arr m10 hF hR (Or.inl rfl) (by decide)
  refine wp_putRF fX1_27 (mm_fin (RX1, TX1, 14) rfl ⟨rfl, rfl⟩) rfl rfl (rfl) (by decide) dX1_init_43 ?_
  have m12 : mk2 103 110 F R F (u2 (u2 (u2 (u2 (u2 (u2 R 103 0 (some 104)) 103 1 (some 105)) 103 2 (some 106)) 103 3 (some 107)) 103 4 (some 108)) 103 5 (some 109)) := mk2_putR m11 (by decide)
  refine wp_aload_n dX1_init_46 rfl 0 rfl ?_
  refine wp_iconst (v := 4) dX1_init_47 (by decide) ?_
  refine wp_newI (ty := .int) (n := 4) (t0 := 0) hC (by decide) (rfl) (rfl) (by decide) rfl (Or.inl ⟨rfl, rfl⟩) k_38 (hA _ (by decide)) dX1_init_48 ?_
  have m13 : mk2 103 111 F R F (u2 (u2 (u2 (u2 (u2 (u2 R 103 0 (some 104)) 103 1 (some 105)) 103 2 (some 106)) 103 3 (some 107)) 103 4 (some 108)) 103 5 (some 109)) := mk2_arr m12 hF hR (Or.inl rfl) (by decide)
  refine wp_putRF fX1_30 (mm_fin (RX1, TX1, 14) rfl ⟨rfl, rfl⟩) rfl rfl (rfl) (by decide) dX1_init_50 ?_
  have m14 : mk2 103 111 F R F (u2 (u2 (u2 (u2 (u2 (u2 (u2 R 103 0 (some 104)) 103 1 (some 105)) 103 2 (some 106)) 103 3 (some 107)) 103 4 (some 108)) 103 5 (some 109)) 103 6 (some 110)) := mk2_putR m13 (by decide)
  refine wp_aload_n dX1_init_53 rfl 0 rfl ?_
  refine wp_iconst (v := 4) dX1_init_54 (by decide) ?_
  refine wp_newI (ty := .int) (n := 4) (t0 := 0) hC (by decide) (rfl) (rfl) (by decide) rfl (Or.inl ⟨rfl, rfl⟩) k_38 (hA _ (by decide)) dX1_init_55 ?_
  have m15 : mk2 103 112 F R F (u2 (u2 (u2 (u2 (u2 (u2 (u2 R 103 0 (some 104)) 103 1 (some 105)) 103 2 (some 106)) 103 3 (some 107)) 103 4 (some 108)) 103 5 (some 109)) 103 6 (some 110)) := mk2_arr m14 hF hR (Or.inl rfl) (by decide)
  refine wp_putRF fX1_33 (mm_fin (RX1, TX1, 14) rfl ⟨rfl, rfl⟩) rfl rfl (rfl) (by decide) dX1_init_57 ?_
  have m16 : mk2 103 112 F R F (u2 (u2 (u2 (u2 (u2 (u2 (u2 (u2 R 103 0 (some 104)) 103 1 (some 105)) 103 2 (some 106)) 103 3 (some 107)) 103 4 (some 108)) 103 5 (some 109)) 103 6 (some 110)) 103 7 (some 111)) := mk2_putR m15 (by decide)
  refine wp_aload_n dX1_init_60 rfl 0 rfl ?_
  refine wp_iconst (v := 4) dX1_init_61 (by decide) ?_
  refine wp_newI (ty := .int) (n := 4) (t0 := 0) hC (by decide) (rfl) (rfl) (by decide) rfl (Or.inl ⟨rfl, rfl⟩) k_38 (hA _ (by decide)) dX1_init_62 ?_
  have m17 : mk2 103 113 F R F (u2 (u2 (u2 (u2 (u2 (u2 (u2 (u2 R 103 0 (some 104)) 103 1 (some 105)) 103 2 (some 106)) 103 3 (some 107)) 103 4 (some 108)) 103 5 (some 109)) 103 6 (some 110)) 103 7 (some 111)) := mk2_arr m16 hF hR (Or.inl rfl) (by decide)
  refine wp_putRF fX1_36 (mm_fin (RX1, TX1, 14) rfl ⟨rfl, rfl⟩) rfl rfl (rfl) (by decide) dX1_init_64 ?_
  have m18 : mk2 103 113 F R F (u2 (u2 (u2 (u2 (u2 (u2 (u2 (u2 (u2 R 103 0 (some 104)) 103 1 (some 105)) 103 2 (some 106)) 103 3 (some 107)) 103 4 (some 108)) 103 5 (some 109)) 103 6 (some 110)) 103 7 (some 111)) 103 8 (some 112)) := mk2_putR m17 (by decide)
  refine wp_aload_n dX1_init_67 rfl 0 rfl ?_
  refine wp_iconst (v := 0) dX1_init_68 (by decide) ?_
  refine wp_putI fX1_39 fn_1_9 rfl (rfl) (by decide) dX1_init_69 ?_
  have m19 : mk2 103 113 F R (u2 F 103 9 0) (u2 (u2 (u2 (u2 (u2 (u2 (u2 (u2 (u2 R 103 0 (some 104)) 103 1 (some 105)) 103 2 (some 106)) 103 3 (some 107)) 103 4 (some 108)) 103 5 (some 109)) 103 6 (some 110)) 103 7 (some 111)) 103 8 (some 112)) := mk2_putF m18 (by decide)
  refine wp_aload_n dX1_init_72 rfl 0 rfl ?_
  refine wp_iconst (v := 0) dX1_init_73 (by decide) ?_
  refine wp_putI fX1_43 fn_1_10 rfl (rfl) (by decide) dX1_init_74 ?_
  have m20 : mk2 103 113 F R (u2 (u2 F 103 9 0) 103 10 0) (u2 (u2 (u2 (u2 (u2 (u2 (u2 (u2 (u2 R 103 0 (some 104)) 103 1 (some 105)) 103 2 (some 106)) 103 3 (some 107)) 103 4 (some 108)) 103 5 (some 109)) 103 6 (some 110)) 103 7 (some 111)) 103 8 (some 112)) := mk2_putF m19 (by decide)
  refine wp_aload_n dX1_init_77 rfl 0 rfl ?_
  refine wp_iconst (v := 0) dX1_init_78 (by decide) ?_
  refine wp_putI fX1_46 fn_1_11 rfl (rfl) (by decide) dX1_init_79 ?_
  have m21 : mk2 103 113 F R (u2 (u2 (u2 F 103 9 0) 103 10 0) 103 11 0) (u2 (u2 (u2 (u2 (u2 (u2 (u2 (u2 (u2 R 103 0 (some 104)) 103 1 (some 105)) 103 2 (some 106)) 103 3 (some 107)) 103 4 (some 108)) 103 5 (some 109)) 103 6 (some 110)) 103 7 (some 111)) 103 8 (some 112)) := mk2_putF m20 (by decide)
  refine wp_aload_n dX1_init_82 rfl 0 rfl ?_
  refine wp_iconst (v := 1) dX1_init_83 (by decide) ?_
  refine wp_putI fX1_49 fn_1_12 rfl (rfl) (by decide) dX1_init_84 ?_
  have m22 : mk2 103 113 F R (u2 (u2 (u2 (u2 F 103 9 0) 103 10 0) 103 11 0) 103 12 1) (u2 (u2 (u2 (u2 (u2 (u2 (u2 (u2 (u2 R 103 0 (some 104)) 103 1 (some 105)) 103 2 (some 106)) 103 3 (some 107)) 103 4 (some 108)) 103 5 (some 109)) 103 6 (some 110)) 103 7 (some 111)) 103 8 (some 112)) := mk2_putF m21 (by decide)
  refine wp_aload_n dX1_init_87 rfl 0 rfl ?_
  refine wp_iconst (v := 0) dX1_init_88 (by decide) ?_
  refine wp_putI fX1_52 fn_1_13 rfl (rfl) (by decide) dX1_init_89 ?_
  have m23 : mk2 103 113 F R (u2 (u2 (u2 (u2 (u2 F 103 9 0) 103 10 0) 103 11 0) 103 12 1) 103 13 0) (u2 (u2 (u2 (u2 (u2 (u2 (u2 (u2 (u2 R 103 0 (some 104)) 103 1 (some 105)) 103 2 (some 106)) 103 3 (some 107)) 103 4 (some 108)) 103 5 (some 109)) 103 6 (some 110)) 103 7 (some 111)) 103 8 (some 112)) := mk2_putF m22 (by decide)
  have rowF : (u2 (u2 (u2 (u2 (u2 F 103 9 0) 103 10 0) 103 11 0) 103 12 1) 103 13 0) 103 = FI 103 := by
    simp only [u2_row, hF 103 (Nat.le_refl _)]
    funext j
    rcases j with _|_|_|_|_|_|_|_|_|_|_|_|_|_|j <;> simp [va_up, FI, FIl, RI, show mm_K 103 = 1 from rfl, mm_off, mm_offl]
  have rowR : (u2 (u2 (u2 (u2 (u2 (u2 (u2 (u2 (u2 R 103 0 (some 104)) 103 1 (some 105)) 103 2 (some 106)) 103 3 (some 107)) 103 4 (some 108)) 103 5 (some 109)) 103 6 (some 110)) 103 7 (some 111)) 103 8 (some 112)) 103 = RI 103 := by
    simp only [u2_row, hR 103 (Nat.le_refl _)]
    funext j
    rcases j with _|_|_|_|_|_|_|_|_|_|_|_|_|_|j <;> simp [va_up, FI, FIl, RI, show mm_K 103 = 1 from rfl, mm_off, mm_offl]
  exact wp_vret hC rfl dX1_init_92 (⟨rfl, mk2_end m23 rowF rowR, rfl, rfl⟩)

set_option maxRecDepth 100000 in
set_option maxHeartbeats 600000 in
theorem c_X1_initB (l : Launch) (k : Nat) (F A : mmF) (R : mmR) (G : mmG) (hF : fz 0 113 F) (hA : fz 0 113 A) (hR : fz none 113 R) (hG : ∀ r, 113 ≤ r → G r = 0) : Meets l hX1_init (k + 1) 114 123 [.ref 113] F A R G (pV (fun F1 A1 R1 G1 => mk1 113 123 F R F1 R1 ∧ A = A1 ∧ G = G1)) := by
  refine mm_start rfl (Nat.le_of_ble_eq_true rfl) (fun X hC => ?_)
  show WP hX1_init X 114 0 [(0, .ref 113)] [] F A R G
  have m0 : mk2 113 114 F R F R := mk2_start
  refine wp_aload_n dX1_init_0 rfl 0 rfl ?_
  refine wp_objInit hC (by omega) k_209 k_21 k_22 (Nat.le_of_ble_eq_true rfl) dX1_init_1 ?_
  refine wp_aload_n dX1_init_4 rfl 0 rfl ?_
  refine wp_iconst (v := 5) dX1_init_5 (by decide) ?_
  refine wp_newI (ty := .int) (n := 5) (t0 := 0) hC (by decide) (rfl) (rfl) (by decide) rfl (Or.inl ⟨rfl, rfl⟩) k_38 (hA _ (by decide)) dX1_init_6 ?_
  have m1 : mk2 113 115 F R F R := mk2_arr m0 hF hR (Or.inl rfl) (by decide)
  refine wp_putRF fX1_9 (mm_fin (RX1, TX1, 14) rfl ⟨rfl, rfl⟩) rfl rfl (rfl) (by decide) dX1_init_8 ?_
  have m2 : mk2 113 115 F R F (u2 R 113 0 (some 114)) := mk2_putR m1 (by decide)
  refine wp_aload_n dX1_init_11 rfl 0 rfl ?_
  refine wp_iconst (v := 5) dX1_init_12 (by decide) ?_
  refine wp_newI (ty := .int) (n := 5) (t0 := 0) hC (by decide) (rfl) (rfl) (by decide) rfl (Or.inl ⟨rfl, rfl⟩) k_38 (hA _ (by decide)) dX1_init_13 ?_
  have m3 : mk2 113 116 F R F (u2 R 113 0 (some 114)) := mk2_arr m2 hF hR (Or.inl rfl) (by decide)
  refine wp_putRF fX1_15 (mm_fin (RX1, TX1, 14) rfl ⟨rfl, rfl⟩) rfl rfl (rfl) (by decide) dX1_init_15 ?_
  have m4 : mk2 113 116 F R F (u2 (u2 R 113 0 (some 114)) 113 1 (some 115)) := mk2_putR m3 (by decide)
  refine wp_aload_n dX1_init_18 rfl 0 rfl ?_
  refine wp_iconst (v := 5) dX1_init_19 (by decide) ?_
  refine wp_newI (ty := .int) (n := 5) (t0 := 0) hC (by decide) (rfl) (rfl) (by decide) rfl (Or.inl ⟨rfl, rfl⟩) k_38 (hA _ (by decide)) dX1_init_20 ?_
  have m5 : mk2 113 117 F R F (u2 (u2 R 113 0 (some 114)) 113 1 (some 115)) := mk2_arr m4 hF hR (Or.inl rfl) (by decide)
  refine wp_putRF fX1_18 (mm_fin (RX1, TX1, 14) rfl ⟨rfl, rfl⟩) rfl rfl (rfl) (by decide) dX1_init_22 ?_
  have m6 : mk2 113 117 F R F (u2 (u2 (u2 R 113 0 (some 114)) 113 1 (some 115)) 113 2 (some 116)) := mk2_putR m5 (by decide)
  refine wp_aload_n dX1_init_25 rfl 0 rfl ?_
  refine wp_iconst (v := 4) dX1_init_26 (by decide) ?_
  refine wp_newI (ty := .int) (n := 4) (t0 := 0) hC (by decide) (rfl) (rfl) (by decide) rfl (Or.inl ⟨rfl, rfl⟩) k_38 (hA _ (by decide)) dX1_init_27 ?_
  have m7 : mk2 113 118 F R F (u2 (u2 (u2 R 113 0 (some 114)) 113 1 (some 115)) 113 2 (some 116)) := mk2_arr m6 hF hR (Or.inl rfl) (by decide)
  refine wp_putRF fX1_21 (mm_fin (RX1, TX1, 14) rfl ⟨rfl, rfl⟩) rfl rfl (rfl) (by decide) dX1_init_29 ?_
  have m8 : mk2 113 118 F R F (u2 (u2 (u2 (u2 R 113 0 (some 114)) 113 1 (some 115)) 113 2 (some 116)) 113 3 (some 117)) := mk2_putR m7 (by decide)
  refine wp_aload_n dX1_init_32 rfl 0 rfl ?_
  refine wp_iconst (v := 4) dX1_init_33 (by decide) ?_
  refine wp_newI (ty := .int) (n := 4) (t0 := 0) hC (by decide) (rfl) (rfl) (by decide) rfl (Or.inl ⟨rfl, rfl⟩) k_38 (hA _ (by decide)) dX1_init_34 ?_
  have m9 : mk2 113 119 F R F (u2 (u2 (u2 (u2 R 113 0 (some 114)) 113 1 (some 115)) 113 2 (some 116)) 113 3 (some 117)) := mk2_arr m8 hF hR (Or.inl rfl) (by decide)
  refine wp_putRF fX1_24 (mm_fin (RX1, TX1, 14) rfl ⟨rfl, rfl⟩) rfl rfl (rfl) (by decide) dX1_init_36 ?_
  have m10 : mk2 113 119 F R F (u2 (u2 (u2 (u2 (u2 R 113 0 (some 114)) 113 1 (some 115)) 113 2 (some 116)) 113 3 (some 117)) 113 4 (some 118)) := mk2_putR m9 (by decide)
  refine wp_aload_n dX1_init_39 rfl 0 rfl ?_
  refine wp_iconst (v := 4) dX1_init_40 (by decide) ?_
  refine wp_newI (ty := .int) (n := 4) (t0 := 0) hC (by decide) (rfl) (rfl) (by decide) rfl (Or.inl ⟨rfl, rfl⟩) k_38 (hA _ (by decide)) dX1_init_41 ?_
  have m11 : mk2 113 120 F R F (u2 (u2 (u2 (u2 (u2 R 113 0 (some 114)) 113 1 (some 115)) 113 2 (some 116)) 113 3 (some 117)) 113 4 (some 118)) := mk2_arr m10 hF hR (Or.inl rfl) (by decide)
  refine wp_putRF fX1_27 (mm_fin (RX1, TX1, 14) rfl ⟨rfl, rfl⟩) rfl rfl (rfl) (by decide) dX1_init_43 ?_
  have m12 : mk2 113 120 F R F (u2 (u2 (u2 (u2 (u2 (u2 R 113 0 (some 114)) 113 1 (some 115)) 113 2 (some 116)) 113 3 (some 117)) 113 4 (some 118)) 113 5 (some 119)) := mk2_putR m11 (by decide)
  refine wp_aload_n dX1_init_46 rfl 0 rfl ?_
  refine wp_iconst (v := 4) dX1_init_47 (by decide) ?_
  refine wp_newI (ty := .int) (n := 4) (t0 := 0) hC (by decide) (rfl) (rfl) (by decide) rfl (Or.inl ⟨rfl, rfl⟩) k_38 (hA _ (by decide)) dX1_init_48 ?_
  have m13 : mk2 113 121 F R F (u2 (u2 (u2 (u2 (u2 (u2 R 113 0 (some 114)) 113 1 (some 115)) 113 2 (some 116)) 113 3 (some 117)) 113 4 (some 118)) 113 5 (some 119)) := mk2_arr m12 hF hR (Or.inl rfl) (by decide)
  refine wp_putRF fX1_30 (mm_fin (RX1, TX1, 14) rfl ⟨rfl, rfl⟩) rfl rfl (rfl) (by decide) dX1_init_50 ?_
  have m14 : mk2 113 121 F R F (u2 (u2 (u2 (u2 (u2 (u2 (u2 R 113 0 (some 114)) 113 1 (some 115)) 113 2 (some 116)) 113 3 (some 117)) 113 4 (some 118)) 113 5 (some 119)) 113 6 (some 120)) := mk2_putR m13 (by decide)
  refine wp_aload_n dX1_init_53 rfl 0 rfl ?_
  refine wp_iconst (v := 4) dX1_init_54 (by decide) ?_
  refine wp_newI (ty := .int) (n := 4) (t0 := 0) hC (by decide) (rfl) (rfl) (by decide) rfl (Or.inl ⟨rfl, rfl⟩) k_38 (hA _ (by decide)) dX1_init_55 ?_
  have m15 : mk2 113 122 F R F (u2 (u2 (u2 (u2 (u2 (u2 (u2 R 113 0 (some 114)) 113 1 (some 115)) 113 2 (some 116)) 113 3 (some 117)) 113 4 (some 118)) 113 5 (some 119)) 113 6 (some 120)) := mk2_arr m14 hF hR (Or.inl rfl) (by decide)
  refine wp_putRF fX1_33 (mm_fin (RX1, TX1, 14) rfl ⟨rfl, rfl⟩) rfl rfl (rfl) (by decide) dX1_init_57 ?_
  have m16 : mk2 113 122 F R F (u2 (u2 (u2 (u2 (u2 (u2 (u2 (u2 R 113 0 (some 114)) 113 1 (some 115)) 113 2 (some 116)) 113 3 (some 117)) 113 4 (some 118)) 113 5 (some 119)) 113 6 (some 120)) 113 7 (some 121)) := mk2_putR m15 (by decide)
  refine wp_aload_n dX1_init_60 rfl 0 rfl ?_
  refine wp_iconst (v := 4) dX1_init_61 (by decide) ?_
  refine wp_newI (ty := .int) (n := 4) (t0 := 0) hC (by decide) (rfl) (rfl) (by decide) rfl (Or.inl ⟨rfl, rfl⟩) k_38 (hA _ (by decide)) dX1_init_62 ?_
  have m17 : mk2 113 123 F R F (u2 (u2 (u2 (u2 (u2 (u2 (u2 (u2 R 113 0 (some 114)) 113 1 (some 115)) 113 2 (some 116)) 113 3 (some 117)) 113 4 (some 118)) 113 5 (some 119)) 113 6 (some 120)) 113 7 (some 121)) := mk2_arr m16 hF hR (Or.inl rfl) (by decide)
  refine wp_putRF fX1_36 (mm_fin (RX1, TX1, 14) rfl ⟨rfl, rfl⟩) rfl rfl (rfl) (by decide) dX1_init_64 ?_
  have m18 : mk2 113 123 F R F (u2 (u2 (u2 (u2 (u2 (u2 (u2 (u2 (u2 R 113 0 (some 114)) 113 1 (some 115)) 113 2 (some 116)) 113 3 (some 117)) 113 4 (some 118)) 113 5 (some 119)) 113 6 (some 120)) 113 7 (some 121)) 113 8 (some 122)) := mk2_putR m17 (by decide)
  refine wp_aload_n dX1_init_67 rfl 0 rfl ?_
  refine wp_iconst (v := 0) dX1_init_68 (by decide) ?_
  refine wp_putI fX1_39 fn_1_9 rfl (rfl) (by decide) dX1_init_69 ?_
  have m19 : mk2 113 123 F R (u2 F 113 9 0) (u2 (u2 (u2 (u2 (u2 (u2 (u2 (u2 (u2 R 113 0 (some 114)) 113 1 (some 115)) 113 2 (some 116)) 113 3 (some 117)) 113 4 (some 118)) 113 5 (some 119)) 113 6 (some 120)) 113 7 (some 121)) 113 8 (some 122)) := mk2_putF m18 (by decide)
  refine wp_aload_n dX1_init_72 rfl 0 rfl ?_
  refine wp_iconst (v := 0) dX1_init_73 (by decide) ?_
  refine wp_putI fX1_43 fn_1_10 rfl (rfl) (by decide) dX1_init_74 ?_
  have m20 : mk2 113 123 F R (u2 (u2 F 113 9 0) 113 10 0) (u2 (u2 (u2 (u2 (u2 (u2 (u2 (u2 (u2 R 113 0 (some 114)) 113 1 (some 115)) 113 2 (some 116)) 113 3 (some 117)) 113 4 (some 118)) 113 5 (some 119)) 113 6 (some 120)) 113 7 (some 121)) 113 8 (some 122)) := mk2_putF m19 (by decide)
  refine wp_aload_n dX1_init_77 rfl 0 rfl ?_
  refine wp_iconst (v := 0) dX1_init_78 (by decide) ?_
  refine wp_putI fX1_46 fn_1_11 rfl (rfl) (by decide) dX1_init_79 ?_
  have m21 : mk2 113 123 F R (u2 (u2 (u2 F 113 9 0) 113 10 0) 113 11 0) (u2 (u2 (u2 (u2 (u2 (u2 (u2 (u2 (u2 R 113 0 (some 114)) 113 1 (some 115)) 113 2 (some 116)) 113 3 (some 117)) 113 4 (some 118)) 113 5 (some 119)) 113 6 (some 120)) 113 7 (some 121)) 113 8 (some 122)) := mk2_putF m20 (by decide)
  refine wp_aload_n dX1_init_82 rfl 0 rfl ?_
  refine wp_iconst (v := 1) dX1_init_83 (by decide) ?_
  refine wp_putI fX1_49 fn_1_12 rfl (rfl) (by decide) dX1_init_84 ?_
  have m22 : mk2 113 123 F R (u2 (u2 (u2 (u2 F 113 9 0) 113 10 0) 113 11 0) 113 12 1) (u2 (u2 (u2 (u2 (u2 (u2 (u2 (u2 (u2 R 113 0 (some 114)) 113 1 (some 115)) 113 2 (some 116)) 113 3 (some 117)) 113 4 (some 118)) 113 5 (some 119)) 113 6 (some 120)) 113 7 (some 121)) 113 8 (some 122)) := mk2_putF m21 (by decide)
  refine wp_aload_n dX1_init_87 rfl 0 rfl ?_
  refine wp_iconst (v := 0) dX1_init_88 (by decide) ?_
  refine wp_putI fX1_52 fn_1_13 rfl (rfl) (by decide) dX1_init_89 ?_
  have m23 : mk2 113 123 F R (u2 (u2 (u2 (u2 (u2 F 113 9 0) 113 10 0) 113 11 0) 113 12 1) 113 13 0) (u2 (u2 (u2 (u2 (u2 (u2 (u2 (u2 (u2 R 113 0 (some 114)) 113 1 (some 115)) 113 2 (some 116)) 113 3 (some 117)) 113 4 (some 118)) 113 5 (some 119)) 113 6 (some 120)) 113 7 (some 121)) 113 8 (some 122)) := mk2_putF m22 (by decide)
  have rowF : (u2 (u2 (u2 (u2 (u2 F 113 9 0) 113 10 0) 113 11 0) 113 12 1) 113 13 0) 113 = FI 113 := by
    simp only [u2_row, hF 113 (Nat.le_refl _)]
    funext j
    rcases j with _|_|_|_|_|_|_|_|_|_|_|_|_|_|j <;> simp [va_up, FI, FIl, RI, show mm_K 113 = 1 from rfl, mm_off, mm_offl]
  have rowR : (u2 (u2 (u2 (u2 (u2 (u2 (u2 (u2 (u2 R 113 0 (some 114)) 113 1 (some 115)) 113 2 (some 116)) 113 3 (some 117)) 113 4 (some 118)) 113 5 (some 119)) 113 6 (some 120)) 113 7 (some 121)) 113 8 (some 122)) 113 = RI 113 := by
    simp only [u2_row, hR 113 (Nat.le_refl _)]
    funext j
    rcases j with _|_|_|_|_|_|_|_|_|_|_|_|_|_|j <;> simp [va_up, FI, FIl, RI, show mm_K 113 = 1 from rfl, mm_off, mm_offl]
  exact wp_vret hC rfl dX1_init_92 (⟨rfl, mk2_end m23 rowF rowR, rfl, rfl⟩)

set_option maxRecDepth 100000 in
set_option maxHeartbeats 600000 in
theorem c_X3_init (l : Launch) (k : Nat) (F A : mmF) (R : mmR) (G : mmG) (hF : fz 0 80 F) (hA : fz 0 80 A) (hR : fz none 80 R) (hG : ∀ r, 80 ≤ r → G r = 0) : Meets l hX3_init (k + 2) 81 86 [.ref 80] F A R G (pV (fun F1 A1 R1 G1 => mk1 80 86 F R F1 R1 ∧ A = A1 ∧ G = G1)) := by
  refine mm_start rfl (Nat.le_of_ble_eq_true rfl) (fun X hC => ?_)
  show WP hX3_init X 81 0 [(0, .ref 80)] [] F A R G
  have m0 : mk2 80 81 F R F R := mk2_start
  refine wp_aload_n dX3_init_0 rfl 0 rfl ?_
  refine wp_objInit hC (by omega) k_160 k_21 k_22 (Nat.le_of_ble_eq_true rfl) dX3_init_1 ?_
  refine wp_aload_n dX3_init_4 rfl 0 rfl ?_
  refine wp_bipush (v := 36) dX3_init_5 (by decide) ?_
  refine wp_newI (ty := .int) (n := 36) (t0 := 0) hC (by decide) (rfl) (rfl) (by decide) rfl (Or.inl ⟨rfl, rfl⟩) k_38 (hA _ (by decide)) dX3_init_7 ?_
  have m1 : mk2 80 82 F R F R := mk2_arr m0 hF hR (Or.inl rfl) (by decide)
  refine wp_putRF fX3_11 (mm_fin (RX3, TX3, 5) rfl ⟨rfl, rfl⟩) rfl rfl (rfl) (by decide) dX3_init_9 ?_
  have m2 : mk2 80 82 F R F (u2 R 80 0 (some 81)) := mk2_putR m1 (by decide)
  refine wp_aload_n dX3_init_12 rfl 0 rfl ?_
  refine wp_bipush (v := 36) dX3_init_13 (by decide) ?_
  refine wp_newI (ty := .int) (n := 36) (t0 := 0) hC (by decide) (rfl) (rfl) (by decide) rfl (Or.inl ⟨rfl, rfl⟩) k_38 (hA _ (by decide)) dX3_init_15 ?_
  have m3 : mk2 80 83 F R F (u2 R 80 0 (some 81)) := mk2_arr m2 hF hR (Or.inl rfl) (by decide)
  refine wp_putRF fX3_15 (mm_fin (RX3, TX3, 5) rfl ⟨rfl, rfl⟩) rfl rfl (rfl) (by decide) dX3_init_17 ?_
  have m4 : mk2 80 83 F R F (u2 (u2 R 80 0 (some 81)) 80 1 (some 82)) := mk2_putR m3 (by decide)
  refine wp_aload_n dX3_init_20 rfl 0 rfl ?_
  refine wp_new (ci := 7) (C := RX7) (T := TX7) (n := 7) (ty := tyX7) hC (by decide) rfl rfl rfl inX7 tyX7_ok k_161 k_40 k_3 (mk_fv (m4.fF hF (by decide)) (m4.fR hR (by decide)) (fun r hr => hG r (by omega)) dfX7) dX3_init_21 ?_
  refine wp_dup dX3_init_24 rfl ?_
  refine wp_callV (N' := 86) (mm_siteIN (av := []) hC rfl lX3_20 rfl rfl (Nat.le_of_ble_eq_true rfl) dX3_init_25) (c_X7_init l (k + 0) _ _ _ _ 83 rfl (m4.fF hF (by decide)) (hA.le (by decide)) (m4.fR hR (by decide)) (fun r hr => hG r (by omega))) (by omega) (by decide) (by decide) (fun F1 A1 R1 G1 hq => ?_)
  obtain ⟨q1, e1, e2⟩ := hq; subst e1; subst e2
  have m5 : mk2 80 86 F R F1 R1 := mk2_sub m4 q1 (by decide) (by decide)
  refine wp_putRF fX3_21 (mm_fin (RX3, TX3, 5) rfl ⟨rfl, rfl⟩) rfl rfl (rfl) (by decide) dX3_init_28 ?_
  have m6 : mk2 80 86 F R F1 (u2 R1 80 2 (some 83)) := mk2_putR m5 (by decide)
  refine wp_aload_n dX3_init_31 rfl 0 rfl ?_
  refine wp_iconst (v := 0) dX3_init_32 (by decide) ?_
  refine wp_putI fX3_25 fn_3_3 rfl (rfl) (by decide) dX3_init_33 ?_
  have m7 : mk2 80 86 F R (u2 F1 80 3 0) (u2 R1 80 2 (some 83)) := mk2_putF m6 (by decide)
  refine wp_aload_n dX3_init_36 rfl 0 rfl ?_
  refine wp_bipush (v := (-9)) dX3_init_37 (by decide) ?_
  refine wp_putI fX3_29 fn_3_4 rfl (rfl) (by decide) dX3_init_39 ?_
  have m8 : mk2 80 86 F R (u2 (u2 F1 80 3 0) 80 4 (-9)) (u2 R1 80 2 (some 83)) := mk2_putF m7 (by decide)
  have rowF : (u2 (u2 F1 80 3 0) 80 4 (-9)) 80 = FI 80 := by
    simp only [u2_row, (q1.2 80 (Or.inl (by decide))).1, (q1.2 80 (Or.inl (by decide))).2, hF 80 (Nat.le_refl _)]
    funext j
    rcases j with _|_|_|_|_|j <;> simp [va_up, FI, FIl, RI, show mm_K 80 = 3 from rfl, mm_off, mm_offl]
  have rowR : (u2 R1 80 2 (some 83)) 80 = RI 80 := by
    simp only [u2_row, (q1.2 80 (Or.inl (by decide))).1, (q1.2 80 (Or.inl (by decide))).2, hR 80 (Nat.le_refl _)]
    funext j
    rcases j with _|_|_|_|_|j <;> simp [va_up, FI, FIl, RI, show mm_K 80 = 3 from rfl, mm_off, mm_offl]
  exact wp_vret hC rfl dX3_init_42 (⟨rfl, mk2_end m8 rowF rowR, rfl, rfl⟩)
