/-! rows by their number -/
theorem scan_add {f : Nat → Int32} : ∀ m i n, scan f i (m + n) = if scan f i m = -9 then scan f (i + m) n else scan f i m
  | 0, i, n => by rw [Nat.zero_add, show scan f i 0 = -9 from rfl, if_pos rfl, Nat.add_zero]
  | m + 1, i, n => by
    rw [show m + 1 + n = (m + n) + 1 by omega, scan, scan]
    split
    · rw [scan_add m (i + 1) n, show i + 1 + m = i + (m + 1) by omega]
    · rfl
theorem scan_sh {f : Nat → Int32} (s : Nat) : ∀ n i, scan f (s + i) n = scan (fun r => f (s + r)) i n
  | 0, i => rfl
  | n + 1, i => by rw [scan, scan, show s + i + 1 = s + (i + 1) by omega, scan_sh s n (i + 1)]
theorem scan_mul' {f : Nat → Int32} (b : Nat) : ∀ a i, scan f (i * b) (a * b) = scan (fun w => scan (fun r => f (w * b + r)) 0 b) i a
  | 0, i => by rw [Nat.zero_mul]; rfl
  | a + 1, i => by
    have e := scan_sh (f := f) (i * b) b 0
    rw [Nat.add_zero] at e
    rw [show (a + 1) * b = b + a * b by rw [Nat.succ_mul]; omega, scan_add, scan, e, show i * b + b = (i + 1) * b by rw [Nat.succ_mul], scan_mul' b a (i + 1)]
theorem scan_mul (f : Nat → Int32) (a b : Nat) : scan f 0 (a * b) = scan (fun w => scan (fun r => f (w * b + r)) 0 b) 0 a := by
  have := scan_mul' (f := f) b a 0
  rwa [Nat.zero_mul] at this
theorem scan_cong {f g : Nat → Int32} : ∀ n i, (∀ j, i ≤ j → j < i + n → f j = g j) → scan f i n = scan g i n
  | 0, i, _ => rfl
  | n + 1, i, h => by rw [scan, scan, h i (Nat.le_refl _) (by omega), scan_cong n (i + 1) (fun j h1 h2 => h j (by omega) (by omega))]
theorem scan_none {f : Nat → Int32} : ∀ n i, (∀ j, i ≤ j → j < i + n → f j = -9) → scan f i n = -9
  | 0, i, _ => rfl
  | n + 1, i, h => by rw [scan, if_pos (h i (Nat.le_refl _) (by omega))]; exact scan_none n (i + 1) (fun j h1 h2 => h j (by omega) (by omega))
theorem scan_map {f : Nat → Int32} {g : Int32 → Int32} (h9 : g (-9) = -9) : ∀ n i, (∀ j, i ≤ j → j < i + n → ¬ f j = -9 → ¬ g (f j) = -9) → scan (fun j => g (f j)) i n = g (scan f i n)
  | 0, i, _ => h9.symm
  | n + 1, i, h => by
    rw [scan, scan]
    by_cases e : f i = -9
    · rw [if_pos e, e, if_pos h9]; exact scan_map h9 n (i + 1) (fun j h1 h2 => h j (by omega) (by omega))
    · rw [if_neg e, if_neg (h i (Nat.le_refl _) (by omega) e)]
theorem foldl_mul' {β : Type} {f : β → Nat → β} (b : Nat) : ∀ a i q, (List.range' (i * b) (a * b)).foldl f q = (List.range' i a).foldl (fun q w => (List.range' 0 b).foldl (fun q r => f q (w * b + r)) q) q
  | 0, i, q => by rw [Nat.zero_mul]; rfl
  | a + 1, i, q => by
    have e : ∀ n s j q, (List.range' (s + j) n).foldl f q = (List.range' j n).foldl (fun q r => f q (s + r)) q := by
      intro n
      induction n with
      | zero => intro s j q; rfl
      | succ n ih => intro s j q; rw [List.range'_succ, List.range'_succ, List.foldl_cons, List.foldl_cons, show s + j + 1 = s + (j + 1) by omega, ih]
    have e0 := e b (i * b) 0 q
    rw [Nat.add_zero] at e0
    rw [show (a + 1) * b = b + a * b by rw [Nat.succ_mul]; omega, List.range'_append_1.symm, List.foldl_append, e0, show i * b + b = (i + 1) * b by rw [Nat.succ_mul], List.range'_succ, List.foldl_cons, foldl_mul' b a (i + 1)]
theorem foldl_mul {β : Type} (f : β → Nat → β) (a b : Nat) (q : β) : (List.range' 0 (a * b)).foldl f q = (List.range' 0 a).foldl (fun q w => (List.range' 0 b).foldl (fun q r => f q (w * b + r)) q) q := by
  have := foldl_mul' (f := f) b a 0 q
  rwa [Nat.zero_mul] at this
theorem foldl_cong {α β : Type} {f g : β → α → β} : ∀ (l : List α) (q : β), (∀ q a, a ∈ l → f q a = g q a) → l.foldl f q = l.foldl g q
  | [], q, _ => rfl
  | a :: l, q, h => by rw [List.foldl_cons, List.foldl_cons, h q a List.mem_cons_self]; exact foldl_cong l _ (fun q b hb => h q b (List.mem_cons_of_mem _ hb))
theorem foldl_id {α β : Type} : ∀ (l : List α) (q : β), l.foldl (fun q _ => q) q = q
  | [], q => rfl
  | a :: l, q => foldl_id l q
/-! the match, row by row -/
def evM (B : BV) (am : Int32) : Nat → Nat → Nat → SV → Int32 → Int32 × Int32 → Int32 × Int32
  | 0, _, _, S, fg, acc => weighP (manyP (S.2.2 2)) fg acc
  | m + 1, t, row, S, fg, acc => if row / (B.1.1 + 1) ^ m % (B.1.1 + 1) = 0 then evM B am m (t + 1) row S (10 * fg) acc else if bt am (nI t) = 0 then acc else if canB B S t (row / (B.1.1 + 1) ^ m % (B.1.1 + 1) - 1) = 0 then acc else evM B am m (t + 1) row (strikeP B S t (row / (B.1.1 + 1) ^ m % (B.1.1 + 1) - 1)).1 (10 * fg + nI (row / (B.1.1 + 1) ^ m % (B.1.1 + 1))) acc
theorem dig_lo {W m r c k : Nat} (hW : 0 < W) (hk : k < m) : (c * W ^ m + r) / W ^ k % W = r / W ^ k % W := by
  have e : c * W ^ m = W ^ k * (c * W ^ (m - k)) := by
    rw [show W ^ m = W ^ k * W ^ (m - k) by rw [← Nat.pow_add]; congr 1; omega, Nat.mul_left_comm]
  rw [e, Nat.mul_add_div (Nat.pow_pos hW)]
  have e2 : c * W ^ (m - k) = W * (c * W ^ (m - k - 1)) := by
    rw [show m - k = (m - k - 1) + 1 by omega, Nat.pow_succ, show m - k - 1 + 1 - 1 = m - k - 1 by omega, Nat.mul_comm W, Nat.mul_assoc]
  rw [e2, Nat.mul_add_mod]
theorem dig_hi {W m r w : Nat} (hw : w < W) (hr : r < W ^ m) : (w * W ^ m + r) / W ^ m % W = w := by
  rw [Nat.mul_comm, Nat.mul_add_div (Nat.lt_of_le_of_lt (Nat.zero_le _) hr), Nat.div_eq_of_lt hr, Nat.add_zero, Nat.mod_eq_of_lt hw]
theorem evM_lo {B : BV} {am : Int32} {c M : Nat} : ∀ m t row S fg acc, m ≤ M → evM B am m t (c * (B.1.1 + 1) ^ M + row) S fg acc = evM B am m t row S fg acc
  | 0, t, row, S, fg, acc, _ => rfl
  | m + 1, t, row, S, fg, acc, h => by
    rw [evM, evM, dig_lo (by omega) (by omega)]
    simp only [evM_lo m _ _ _ _ _ (show m ≤ M by omega)]
theorem fold_rows {β : Type} {F : β → Nat → β} {P0 : β → β} {P : Nat → β → β} {H b : Nat} (h0 : ∀ q, (List.range' 0 b).foldl (fun q r => F q (0 * b + r)) q = P0 q) (h1 : ∀ w q, w < H → (List.range' 0 b).foldl (fun q r => F q ((w + 1) * b + r)) q = P w q) (q : β) : (List.range' 0 ((H + 1) * b)).foldl F q = (List.range' 0 H).foldl (fun q h => P h q) (P0 q) := by
  rw [foldl_mul, List.range'_succ, List.foldl_cons, h0]
  have e : ∀ n i q, i + n ≤ H → (List.range' (i + 1) n).foldl (fun q w => (List.range' 0 b).foldl (fun q r => F q (w * b + r)) q) q = (List.range' i n).foldl (fun q h => P h q) q := by
    intro n
    induction n with
    | zero => intro i q _; rfl
    | succ n ih => intro i q hi; rw [List.range'_succ, List.range'_succ, List.foldl_cons, List.foldl_cons, h1 i q (by omega), ih (i + 1) _ (by omega)]
  exact e H 0 _ (by omega)
theorem evM_0 {B : BV} {am : Int32} {m t r : Nat} {S : SV} {fg : Int32} {q : Int32 × Int32} (hr : r < (B.1.1 + 1) ^ m) : evM B am (m + 1) t (0 * (B.1.1 + 1) ^ m + r) S fg q = evM B am m (t + 1) r S (10 * fg) q := by
  rw [evM, dig_hi (by omega) hr, if_pos rfl, evM_lo _ _ _ _ _ _ (Nat.le_refl _)]
theorem evM_w {B : BV} {am : Int32} {m t r w : Nat} {S : SV} {fg : Int32} {q : Int32 × Int32} (hw : w < B.1.1) (hr : r < (B.1.1 + 1) ^ m) : evM B am (m + 1) t ((w + 1) * (B.1.1 + 1) ^ m + r) S fg q = if bt am (nI t) = 0 then q else if canB B S t w = 0 then q else evM B am m (t + 1) r (strikeP B S t w).1 (10 * fg + nI (w + 1)) q := by
  rw [evM, dig_hi (by omega) hr, if_neg (by omega), evM_lo _ _ _ _ _ _ (Nat.le_refl _), Nat.add_sub_cancel]
theorem evM_all {B : BV} {am : Int32} : ∀ m t S fg acc, (List.range' 0 ((B.1.1 + 1) ^ m)).foldl (fun acc row => evM B am m t row S fg acc) acc = matchP B am m t S fg acc := by
  intro m
  induction m with
  | zero => intro t S fg acc; rw [Nat.pow_zero, List.range'_succ, List.foldl_cons, evM, matchP]; exact List.foldl_nil
  | succ m ih0 =>
    intro t S fg acc
    rw [Nat.pow_succ, Nat.mul_comm]
    refine (fold_rows (P0 := fun q => matchP B am m (t + 1) S (10 * fg) q) (P := fun w q => if bt am (nI t) = 0 then q else if canB B S t w = 0 then q else matchP B am m (t + 1) (strikeP B S t w).1 (10 * fg + nI (w + 1)) q) (fun q => ?_) (fun w q hw => ?_) acc).trans ?_
    · rw [← ih0 (t + 1) S (10 * fg) q]
      exact foldl_cong _ _ (fun q r hr => evM_0 (by have := List.mem_range'.mp hr; omega))
    · rw [foldl_cong _ _ (fun q r hr => evM_w hw (by have := List.mem_range'.mp hr; omega))]
      by_cases h2 : bt am (nI t) = 0
      · simp only [if_pos h2]; exact foldl_id _ _
      · simp only [if_neg h2]
        by_cases h3 : canB B S t w = 0
        · simp only [if_pos h3]; exact foldl_id _ _
        · simp only [if_neg h3]; exact ih0 (t + 1) _ _ _
    · rw [matchP]
      by_cases h2 : bt am (nI t) = 0
      · simp only [if_pos h2]; exact foldl_id _ _
      · simp only [if_neg h2]
        exact foldl_cong _ _ (fun q h _ => by rw [← nI_1, Int32.add_assoc])
theorem match_snd {B : BV} {am : Int32} : ∀ m t S fg (q q' : Int32 × Int32), q.1 = q'.1 → (matchP B am m t S fg q = q ∧ matchP B am m t S fg q' = q') ∨ matchP B am m t S fg q = matchP B am m t S fg q'
  | 0, t, S, fg, q, q', e => by
    unfold matchP weighP; rw [e]; split
    · exact Or.inl ⟨rfl, rfl⟩
    · exact Or.inr rfl
  | m + 1, t, S, fg, q, q', e => by
    unfold matchP
    have ih := match_snd (B := B) (am := am) m (t + 1) S (10 * fg) q q' e
    by_cases h : bt am (nI t) = 0
    · rw [if_pos h, if_pos h]; exact ih
    · rw [if_neg h, if_neg h]
      refine foldl_inv2 (p := fun (c c' : Int32 × Int32) => (c = q ∧ c' = q') ∨ c = c') _ _ _ (fun c c' a _ hc => ?_) ih
      split
      · exact hc
      · rcases hc with ⟨rfl, rfl⟩ | rfl
        · exact match_snd m (t + 1) _ _ _ _ e
        · exact Or.inr rfl
theorem mt_start {B : BV} {S : SV} {am : Int32} (hd : dn S) : matchP B am B.1.2.1 0 S 1 (-9, -9) = mtP B S am := by
  rcases match_snd (B := B) (am := am) B.1.2.1 0 S 1 (-9, -9) (-9, 1) rfl with ⟨h, -⟩ | h
  · have h1 := match_nn (B := B) (am := am) B.1.2.1 0 S 1 (-9, -9) hd
    rw [h] at h1
    exact absurd h1 (by decide)
  · exact h
theorem match_cong {B : BV} {am am' : Int32} : ∀ m t S fg q, (∀ i, t ≤ i → i < t + m → bt am (nI i) = bt am' (nI i)) → matchP B am m t S fg q = matchP B am' m t S fg q
  | 0, t, S, fg, q, _ => rfl
  | m + 1, t, S, fg, q, h => by
    unfold matchP
    have ih := fun S fg q => match_cong (B := B) (am := am) (am' := am') m (t + 1) S fg q (fun i h1 h2 => h i (by omega) (by omega))
    simp only [h t (Nat.le_refl _) (by omega), ih]
theorem bt_15 : ∀ T, T ≤ 4 → ∀ i, i < T → bt 15 (nI i) = bt (sh T - 1) (nI i) := by decide +kernel
theorem mt_15 {B : BV} {S : SV} (hw : wfB B) : mtP B S 15 = mtP B S (sh B.1.2.1 - 1) := match_cong _ _ _ _ _ (fun i _ h => bt_15 _ hw.1.2.1 i (by omega))
