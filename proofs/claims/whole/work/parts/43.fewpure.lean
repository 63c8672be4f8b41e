/-! the fewest throws, row by row -/
def evQ (B : BV) (hk : Nat) : Nat → Nat → SV → Int32
  | 0, _, S => if upP (S.2.2 2) (nI hk) = 0 then 0 else -9
  | m + 1, row, S => rowS B S (mm_hu m) (evQ B hk m row) (row / (B.1.2.1 * B.1.1) ^ m % (B.1.2.1 * B.1.1) / B.1.1) (row / (B.1.2.1 * B.1.1) ^ m % (B.1.2.1 * B.1.1) % B.1.1)
theorem evQ_lo {B : BV} {hk c M : Nat} (hW : 0 < B.1.2.1 * B.1.1) : ∀ m row S, m ≤ M → evQ B hk m (c * (B.1.2.1 * B.1.1) ^ M + row) S = evQ B hk m row S
  | 0, row, S, _ => rfl
  | m + 1, row, S, h => by
    rw [evQ, evQ, dig_lo hW (by omega)]
    unfold rowS
    rw [evQ_lo hW m row _ (by omega)]
theorem evQ_or {B : BV} {hk : Nat} (hw : wfB B) : ∀ m, m ≤ 4 → ∀ row S, 0 < B.1.2.1 * B.1.1 → evQ B hk m row S = -9 ∨ ∃ q, q < 100 ^ m ∧ evQ B hk m row S = nI q
  | 0, _, row, S, _ => by
    unfold evQ; split
    · exact Or.inr ⟨0, by decide, rfl⟩
    · exact Or.inl rfl
  | m + 1, hm, row, S, hW => by
    have h1 := hw.1
    have hH : 0 < B.1.1 := Nat.pos_of_ne_zero (fun e => by rw [e, Nat.mul_zero] at hW; exact absurd hW (Nat.lt_irrefl 0))
    have hd := Nat.mod_lt (row / (B.1.2.1 * B.1.1) ^ m) hW
    have ht : row / (B.1.2.1 * B.1.1) ^ m % (B.1.2.1 * B.1.1) / B.1.1 < B.1.2.1 := Nat.div_lt_of_lt_mul (Nat.lt_of_lt_of_eq hd (Nat.mul_comm _ _))
    have hj := Nat.mod_lt (row / (B.1.2.1 * B.1.1) ^ m % (B.1.2.1 * B.1.1)) hH
    unfold evQ
    exact rowS_or (by omega) (by omega) (by omega) (fun S => evQ_or hw m (by omega) row S hW)
theorem evQ_all {B : BV} {hk : Nat} (hw : wfB B) (hW : 0 < B.1.2.1 * B.1.1) : ∀ m, m ≤ 3 → ∀ S, scan (fun row => evQ B hk m row S) 0 ((B.1.2.1 * B.1.1) ^ m) = rowP B hk m S := by
  have h1 := hw.1
  have hH : 0 < B.1.1 := Nat.pos_of_ne_zero (fun e => by rw [e, Nat.mul_zero] at hW; exact absurd hW (Nat.lt_irrefl 0))
  intro m
  induction m with
  | zero =>
    intro _ S
    rw [Nat.pow_zero, scan, rowP, evQ]
    split
    · rw [if_neg (by decide)]
    · rfl
  | succ m ih =>
    intro hm S
    rw [Nat.pow_succ, Nat.mul_comm, scan_mul]
    have e1 : ∀ w, 0 ≤ w → w < 0 + B.1.2.1 * B.1.1 → scan (fun r => evQ B hk (m + 1) (w * (B.1.2.1 * B.1.1) ^ m + r) S) 0 ((B.1.2.1 * B.1.1) ^ m) = rowS B S (mm_hu m) (rowP B hk m) (w / B.1.1) (w % B.1.1) := by
      intro w _ hw2
      have ht : w / B.1.1 < B.1.2.1 := Nat.div_lt_of_lt_mul (by rw [Nat.mul_comm]; omega)
      have hj := Nat.mod_lt w hH
      have e0 : ∀ r, r < (B.1.2.1 * B.1.1) ^ m → evQ B hk (m + 1) (w * (B.1.2.1 * B.1.1) ^ m + r) S = rowS B S (mm_hu m) (evQ B hk m r) (w / B.1.1) (w % B.1.1) := by
        intro r hr
        rw [evQ, dig_hi (by omega) hr]
        unfold rowS
        rw [evQ_lo hW m r _ (Nat.le_refl _)]
      by_cases hc : canB B S (w / B.1.1) (w % B.1.1) = 0
      · rw [scan_none _ _ (fun r _ hr => by rw [e0 r (by omega)]; unfold rowS; rw [if_pos hc])]
        unfold rowS; rw [if_pos hc]
      · have e2 : ∀ r, 0 ≤ r → r < 0 + (B.1.2.1 * B.1.1) ^ m → evQ B hk (m + 1) (w * (B.1.2.1 * B.1.1) ^ m + r) S = (fun x => if x = -9 then -9 else (10 * (nI (w / B.1.1) + 1) + nI (w % B.1.1) + 1) * mm_hu m + x) (evQ B hk m r (strikeP B S (w / B.1.1) (w % B.1.1)).1) := by
          intro r _ hr
          rw [e0 r (by omega)]; unfold rowS; rw [if_neg hc]
        rw [scan_cong _ _ e2]
        rw [scan_map (f := fun r => evQ B hk m r (strikeP B S (w / B.1.1) (w % B.1.1)).1) (g := fun x => if x = -9 then -9 else (10 * (nI (w / B.1.1) + 1) + nI (w % B.1.1) + 1) * mm_hu m + x)]
        · unfold rowS; rw [if_neg hc, ih (by omega)]
        · rfl
        · intro j _ _ hne
          rw [if_neg hne]
          have := (rowS_val (rest := evQ B hk m j) (S := S) (by omega : m < 4) (by omega) (by omega) (fun S => evQ_or hw m (by omega) j S hW) hc hne)
          rw [← this.1]; exact this.2
    rw [scan_cong _ _ e1, scan_mul]
    rw [rowP]
    refine scan_cong _ _ (fun t _ ht => ?_)
    refine scan_cong _ _ (fun j _ hj => ?_)
    rw [show (t * B.1.1 + j) / B.1.1 = t from by rw [Nat.mul_comm, Nat.mul_add_div hH, Nat.div_eq_of_lt (by omega), Nat.add_zero], show (t * B.1.1 + j) % B.1.1 = j from by rw [Nat.mul_comm, Nat.mul_add_mod, Nat.mod_eq_of_lt (by omega)]]
/-- the figures so far, and what the rest of the row comes to -/
def comb (m : Nat) (fg r : Int32) : Int32 := if r = -9 then -9 else fg * mm_hu m + r
theorem hu_s {m : Nat} (h : m < 3) : mm_hu (m + 1) = 100 * mm_hu m := by
  rcases (show m = 0 ∨ m = 1 ∨ m = 2 by omega) with rfl | rfl | rfl <;> decide
theorem comb_no {B : BV} {T : SV} {m t j : Nat} {fg : Int32} {rest : SV → Int32} (hc : canB B T t j = 0) : comb (m + 1) fg (rowS B T (mm_hu m) rest t j) = -9 := by
  unfold comb rowS; rw [if_pos hc, if_pos rfl]
theorem comb_go {B : BV} {T : SV} {m t j : Nat} {fg : Int32} {rest : SV → Int32} (hm : m < 3) (ht : t < 4) (hj : j < 5) (hr : ∀ S, rest S = -9 ∨ ∃ q, q < 100 ^ m ∧ rest S = nI q) (hc : ¬ canB B T t j = 0) : comb (m + 1) fg (rowS B T (mm_hu m) rest t j) = comb m (100 * fg + 10 * (nI t + 1) + nI j + 1) (rest (strikeP B T t j).1) := by
  by_cases h2 : rest (strikeP B T t j).1 = -9
  · unfold comb rowS; rw [if_neg hc, if_pos h2, if_pos rfl, if_pos h2]
  · obtain ⟨e, hne⟩ := rowS_val (by omega : m < 4) ht hj hr hc h2
    unfold comb
    rw [if_neg hne, if_neg h2, e, hu_s hm]
    have : ∀ a b c x y : Int32, a * (100 * x) + ((b + c + 1) * x + y) = (100 * a + b + c + 1) * x + y := by
      intro a b c x y
      rw [← Int32.add_assoc, ← Int32.mul_assoc, Int32.mul_comm a 100, ← Int32.add_mul, ← Int32.add_assoc, ← Int32.add_assoc]
    exact this _ _ _ _ _
theorem up_bt {d : Int32} {h : Nat} : upP d (nI h) = 0 ↔ ¬ bt d (nI h) = 0 := upP_eq
def km (m : Nat) : Int32 := nI m - 1
theorem km_s (m : Nat) : km (m + 1) = nI m := ix_sub (a := m + 1) (b := 1) rfl rfl (by omega)
theorem km_0 {m : Nat} (hm : m < 100) (h : km m < 0) : m = 0 := by
  rcases m with - | m
  · rfl
  · rw [km_s] at h; exact absurd h (nI_pos (by omega))
theorem km_p {m : Nat} (h : ¬ km m < 0) : ∃ n, m = n + 1 := by
  rcases m with - | m
  · exact absurd (by decide) h
  · exact ⟨m, rfl⟩
theorem km_d (m : Nat) : km (m + 1) + Int32.ofInt (-1) = km m := by
  rw [km_s]; unfold km; rw [Int32.sub_eq_add_neg]; rfl
theorem few_ok {B : BV} {S : SV} {h : Nat} {row : Int32} {n : Nat} (hno : ∀ i, i < n → rowP B h i S = -9) (hn : n ≤ 3) (hy : ¬ rowP B h n S = -9) : fewP B S h row 0 4 = if row = 0 then nI n else rowP B h n S := by
  have : ∀ d i, i + d = n → fewP B S h row i (4 - i) = if row = 0 then nI n else rowP B h n S := by
    intro d
    induction d with
    | zero => intro i hi; have : i = n := by omega
              subst this; rw [show 4 - i = 3 - i + 1 by omega, fewP, if_neg hy]
    | succ d ih => intro i hi; rw [show 4 - i = 4 - (i + 1) + 1 by omega, fewP, if_pos (hno i (by omega))]; exact ih (i + 1) (by omega)
  exact this n 0 (by omega)
theorem few_no {B : BV} {S : SV} {h : Nat} {row : Int32} (hno : ∀ i, i < 4 → rowP B h i S = -9) : fewP B S h row 0 4 = -9 := by
  rw [fewP, if_pos (hno 0 (by decide)), fewP, if_pos (hno 1 (by decide)), fewP, if_pos (hno 2 (by decide)), fewP, if_pos (hno 3 (by decide)), fewP]
theorem row_none {B : BV} {S : SV} {h n : Nat} (h0 : B.1.2.1 * B.1.1 = 0) : rowP B h (n + 1) S = -9 := by
  rw [rowP]
  rcases Nat.mul_eq_zero.mp h0 with e | e
  · rw [e]; rfl
  · exact scan_none _ _ (fun t _ _ => by rw [e]; rfl)
theorem evQ_row {B : BV} {h n : Nat} {S : SV} (hw : wfB B) (h1 : 1 ≤ n) (h3 : n ≤ 3) : scan (fun r => evQ B h n r S) 0 ((B.1.2.1 * B.1.1) ^ n) = rowP B h n S := by
  rcases Nat.eq_zero_or_pos (B.1.2.1 * B.1.1) with h0 | h0
  · rw [h0, Nat.zero_pow (by omega)]
    obtain ⟨m, rfl⟩ : ∃ m, n = m + 1 := ⟨n - 1, by omega⟩
    rw [row_none h0]; rfl
  · exact evQ_all hw h0 n h3 S
