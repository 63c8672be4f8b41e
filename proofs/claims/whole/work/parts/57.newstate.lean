/-! the two states side by side, the new state, the script -/
theorem RepM.cong {F A F1 A1 : mmF} {R R1 : mmR} {G G1 : mmG} {Q : QV} (h : RepM F A R G Q) (hf : frX F A R G F1 A1 R1 G1) (hR1 : mm_RL R1) : RepM F1 A1 R1 G1 Q := by
  obtain ⟨hR, ⟨hn, ht⟩, hM, hP, ⟨ha, hac⟩, ⟨he, hes⟩, hk, hg⟩ := h
  have f0 : F1 123 = F 123 := (hf 123 (by decide)).1
  have ga : ∀ r, 123 ≤ r → A1 r = A r := fun r hr => (hf r hr).2.1
  have g0 : G1 123 = G 123 := (hf 123 (by decide)).2.2.2
  exact ⟨hR1, ⟨by rw [f0]; exact hn, by rw [ga 124 (by decide)]; exact ht⟩, isM_c hM ⟨by rw [f0], by rw [f0], by rw [f0]⟩ ⟨ga 125 (by decide), ga 126 (by decide), ga 127 (by decide)⟩, isP_c hP (ga 131 (by decide)), ⟨by rw [f0]; exact ha, by rw [ga 134 (by decide)]; exact hac⟩, ⟨by rw [f0]; exact he, by rw [ga 137 (by decide), ga 138 (by decide), ga 139 (by decide)]; exact hes⟩, by rw [ga 135 (by decide), ga 136 (by decide)]; exact hk, by rw [g0]; exact hg⟩
theorem RepX.cong {F A F1 A1 : mmF} {R R1 : mmR} {G G1 : mmG} {Q : QV} (h : RepX F A R G Q) (hf : frY F A R G F1 A1 R1 G1) (hR1 : mm_RL R1) : RepX F1 A1 R1 G1 Q := by
  obtain ⟨b, d, fi, hR, ⟨hRb, hRd, hb, hd, hbd⟩, ⟨hn, ht⟩, hB, hS, ⟨ha1, ha2, hfi, hac⟩, ⟨he, hes⟩, hk, hg⟩ := h
  have hb2 : b + 9 < 123 := by rcases bo_f hb with rfl | rfl <;> decide
  have gf : ∀ r, r < 123 → F1 r = F r := fun r hr => (hf r hr).1
  have ga : ∀ r, r < 123 → A1 r = A r := fun r hr => (hf r hr).2.1
  have gr : R1 0 = R 0 := (hf 0 (by decide)).2.2.1
  have g0 : G1 0 = G 0 := (hf 0 (by decide)).2.2.2
  have gs : ∀ a S, a + 2 < 123 → isS F A a S → isS F1 A1 a S := fun a S h1 h2 => isS_cong (gf a (by omega)) (ga _ (by omega)) (ga _ (by omega)) h2
  refine ⟨b, d, fi, hR1, ⟨by rw [gr]; exact hRb, by rw [gr]; exact hRd, hb, hd, hbd⟩, ⟨by rw [gf 1 (by decide)]; exact hn, by rw [ga 2 (by decide)]; exact ht⟩, isB_cong (gf b (by omega)) (fun j h1 h2 => ga _ (by omega)) hB, gs 3 _ (by decide) hS, ⟨by rw [gf 6 (by decide)]; exact ha1, by rw [gf 6 (by decide)]; exact ha2, hfi, fun i S hi => gs _ _ (by have := Nat.mod_lt (fi + i) (show 14 > 0 by decide); omega) (hac i S hi)⟩, ⟨by rw [gf 50 (by decide)]; exact he, by rw [ga 51 (by decide), ga 52 (by decide), ga 53 (by decide)]; exact hes⟩, fun j hj => ⟨by rw [ga 62 (by decide)]; exact (hk j hj).1, fun S hS => gs _ _ (by omega) ((hk j hj).2 S hS)⟩, by rw [g0]; exact hg⟩
theorem RepX.rl {F A : mmF} {R : mmR} {G : mmG} {Q : QV} (h : RepX F A R G Q) : mm_RL R := by
  obtain ⟨b, d, fi, hR, -⟩ := h
  exact hR
theorem RepM.rl {F A : mmF} {R : mmR} {G : mmG} {Q : QV} (h : RepM F A R G Q) : mm_RL R := h.1
/-- the new state -/
theorem RI_RL {R : mmR} (h : ∀ r, r < 144 → R r = RI r) : mm_RL R := by
  have key : ∀ r j, mm_off (mm_K r) j ≠ 0 → mm_K r ≠ 13 ∧ ¬ (r = 0 ∧ j = 8) ∧ ¬ (r = 0 ∧ j = 9) := by
    intro r j h1
    refine ⟨fun e => h1 (by rw [e]; rfl), ?_, ?_⟩
    · rintro ⟨rfl, rfl⟩; exact h1 rfl
    · rintro ⟨rfl, rfl⟩; exact h1 rfl
  refine ⟨fun r j h1 => ?_, fun r i h1 h2 => ?_⟩
  · have hr : r < 144 := mm_K_lt (fun e => h1 (by rw [e]; rfl))
    obtain ⟨k1, k2, k3⟩ := key r j h1
    rw [h r hr]; unfold RI
    rw [if_neg k1, if_neg k2, if_neg k3, if_pos h1]
  · rw [h r (mm_K_lt (by rw [h1]; decide))]; unfold RI
    rw [if_pos h1, if_pos h2]
theorem isS_new {F A : mmF} {a : Nat} (hK : mm_K a = 7) (hF : F a = FI a) (h1 : A (a + 1) = fun _ => 0) (h2 : A (a + 2) = fun _ => 0) : isS F A a (fun _ => 0, fun _ => 0, fun j => if j = 5 then 1 else 0) := by
  refine ⟨fun j _ => by rw [h1], fun j _ => by rw [h2], ?_, ?_, ?_, ?_, ?_⟩ <;> rw [hF] <;> simp [FI, FIl, hK]
theorem RepX_new {F A : mmF} {R : mmR} {G : mmG} (hF : ∀ r, r < 144 → F r = FI r) (hA : ∀ r, r < 123 → A r = fun _ => 0) (hR : ∀ r, r < 144 → R r = RI r) (hG : G 0 = 0) : RepX F A R G newQ := by
  refine ⟨103, 113, 0, RI_RL hR, ⟨by rw [hR 0 (by decide)]; rfl, by rw [hR 0 (by decide)]; rfl, rfl, rfl, by decide⟩, ⟨by rw [hF 1 (by decide)]; rfl, fun i hi => absurd hi (Nat.not_lt_zero _)⟩, ⟨⟨by rw [hF 103 (by decide)]; rfl, by rw [hF 103 (by decide)]; rfl, by rw [hF 103 (by decide)]; rfl⟩, fun i hi => absurd hi (Nat.not_lt_zero _), fun i hi => absurd hi (Nat.not_lt_zero _), fun i hi => absurd hi (Nat.not_lt_zero _)⟩, isS_new rfl (hF 3 (by decide)) (hA 4 (by decide)) (hA 5 (by decide)), ⟨by rw [hF 6 (by decide)]; rfl, by rw [hF 6 (by decide)]; rfl, by decide, fun i S hi => by simp [newQ, qA] at hi⟩, ⟨by rw [hF 50 (by decide)]; rfl, fun i hi => absurd hi (Nat.not_lt_zero _)⟩, fun j hj => ⟨by rw [hA 62 (by decide)]; rfl, fun S hS => by simp [newQ, qK] at hS⟩, hG⟩
theorem RepM_new {F A : mmF} {R : mmR} {G : mmG} (hF : ∀ r, r < 144 → F r = FI r) (hA : ∀ r, 123 ≤ r → r < 144 → A r = if r = 131 then va_up (fun _ => 0) 13 1 else fun _ => 0) (hR : ∀ r, r < 144 → R r = RI r) (hG : G 123 = 0) : RepM F A R G newQ := by
  refine ⟨RI_RL hR, ⟨by rw [hF 123 (by decide)]; rfl, fun i hi => absurd hi (Nat.not_lt_zero _)⟩, ⟨by rw [hF 123 (by decide)]; rfl, by rw [hF 123 (by decide)]; rfl, by rw [hF 123 (by decide)]; rfl, fun i hi => absurd hi (Nat.not_lt_zero _), fun i hi => absurd hi (Nat.not_lt_zero _), fun i hi => absurd hi (Nat.not_lt_zero _)⟩, ?_, ⟨by rw [hF 123 (by decide)]; rfl, fun i S hi => by simp [newQ, qA] at hi⟩, ⟨by rw [hF 123 (by decide)]; rfl, fun i hi => absurd hi (Nat.not_lt_zero _)⟩, fun j hj => ⟨by rw [hA 136 (by decide) (by decide)]; rfl, fun S hS => by simp [newQ, qK] at hS⟩, hG⟩
  intro k hk
  rw [hA 131 (by decide) (by decide), if_pos rfl]
  unfold va_up pgS
  show _ = if k < 5 then (0 : Int32) else if k < 10 then 0 else if k = 10 then 0 else if k = 11 then 0 else if k = 12 then 0 else if k = 13 then 1 else 0
  by_cases h : k = 13
  · subst h; rfl
  · simp [h]
/-- the script: x 0 is where it lies -/
def mm_scr (L : Nat) (xs : Nat → Int32) : mmX → Prop := fun ⟨⟨_, _, _, _, s⟩, _, ⟨_, _, b, x⟩, _, _, _, _⟩ => va_X (x 0) L xs s s.heap ∧ x 0 < s.heap.size ∧ x 0 < b
section MKS
variable {Y : mmY} {X : mmX} {N pc L : Nat} {xs : Nat → Int32} {lv : List (Nat × Value)} {st : List Value} {F A : mmF} {R : mmR} {G : mmG}
theorem wp_slen (h : mm_scr L xs X) (hd : decode Y.2.1 pc = .ok (.arraylength, 1)) (kk : WP Y X N (pc + 1) lv (.int (nI L) :: st) F A R G) : WP Y X N pc lv (.float 0 :: st) F A R G := by
  obtain ⟨⟨p, l, e, Rm, s⟩, ⟨m, args, below, meth, c⟩, ⟨D, cy, b, xx⟩, k, N0, N1, Q⟩ := X
  intro ok hN0 H locs ls hl hP hS
  obtain ⟨o1, o2, o3, o4, o5, o6, o7, o8, o9, o10, o11, o12, o13⟩ := id ok
  obtain ⟨h1, h2, h3⟩ := h
  exact va_slen o1 o2 h1 h2 (Nat.not_le.mpr h3) hS hd (kk ok hN0 H locs ls hl hP hS)
theorem wp_sld {i : Int32} (h : mm_scr L xs X) (hL : L < 2 ^ 31) (j : Nat) (hi : i = nI j) (hj : j < L) (hd : decode Y.2.1 pc = .ok (.iaload, 1)) (kk : WP Y X N (pc + 1) lv (.int (xs j) :: st) F A R G) : WP Y X N pc lv (.int i :: .float 0 :: st) F A R G := by
  obtain ⟨⟨p, l, e, Rm, s⟩, ⟨m, args, below, meth, c⟩, ⟨D, cy, b, xx⟩, k, N0, N1, Q⟩ := X
  intro ok hN0 H locs ls hl hP hS
  obtain ⟨o1, o2, o3, o4, o5, o6, o7, o8, o9, o10, o11, o12, o13⟩ := id ok
  obtain ⟨h1, h2, h3⟩ := h
  subst hi
  have e2 : (nI j).toNatClampNeg = j := nI_clamp (by omega)
  refine va_sld o1 o2 h1 h2 (Nat.not_le.mpr h3) hS (vp_in_nI hj (by omega)) hd ?_
  rw [e2]
  exact kk ok hN0 H locs ls hl hP hS
end MKS
