/-! nails -/
def badS (B : BV) (U : SV) (hk t j : Nat) : Int32 := if upP ((thrS B U t j).2.2 2) (nI hk) = 0 then 0 else -9
def stP (B : BV) (U : SV) (hk : Nat) : Int32 := if scan (fun t => scan (badS B U hk t) 0 B.1.1) 0 B.1.2.1 = -9 then 1 else 0
theorem can_orN {B : BV} {S : SV} {nl : Int32} {t j : Nat} : canB B (orN S nl) t j = canB B S t j := by
  unfold canB
  rw [show (orN S nl).2.2 2 = S.2.2 2 from by simp [orN, va_up], show (orN S nl).2.2 5 = S.2.2 5 from by simp [orN, va_up]]
theorem stP_eq {B : BV} {S : SV} {nl : Int32} {hk : Nat} (hu : bt (S.2.2 2) (nI hk) = 0) : stP B (orN S nl) hk = stayP B S hk nl := by
  unfold stP stayP
  have e : ∀ t j, badS B (orN S nl) hk t j = stayS B S hk nl t j := by
    intro t j
    unfold badS stayS thrS
    rw [can_orN]
    by_cases hc : canB B S t j = 0
    · rw [if_pos hc, if_pos hc, show (orN S nl).2.2 2 = S.2.2 2 from by simp [orN, va_up], if_neg (by rw [up_bt]; exact fun hz => hz hu)]
    · rw [if_neg hc, if_neg hc]
  rw [scan_cong (g := fun t => scan (stayS B S hk nl t) 0 B.1.1) _ _ (fun t _ _ => scan_cong _ _ (fun j _ _ => e t j))]
theorem scan_first {f : Nat → Int32} {k n : Nat} (h1 : ∀ j, j < k → f j = -9) (h2 : ¬ f k = -9) (hk : k < n) : scan f 0 n = f k := by
  rw [show n = k + (n - k) by omega, scan_add, scan_none k 0 (fun j _ hj => h1 j (by omega)), if_pos rfl, Nat.zero_add, show n - k = n - k - 1 + 1 by omega, scan, if_neg h2]
def okN (B : BV) (S : SV) (hk n : Nat) : Prop := nI n &&& (freeP B S ^^^ (-1)) = 0 ∧ ¬ stayP B S hk (nI n) = 0
/-- the best of the sets below i -/
def bstN (B : BV) (S : SV) (hk i : Nat) (b : Int32) : Prop := (b = -9 ∧ ∀ n, n < i → ¬ okN B S hk n) ∨ ∃ n0, n0 < i ∧ b = nI n0 ∧ okN B S hk n0 ∧ ∀ n, n < i → okN B S hk n → bc n0 < bc n ∨ (bc n0 = bc n ∧ n0 ≤ n)
theorem nailT_ok {B : BV} {S : SV} {hk n : Nat} (h : okN B S hk n) : nailT B S hk (bc n) n = nI n := by
  unfold nailT; rw [if_pos rfl, if_pos h.1, if_neg h.2]
theorem nailT_no {B : BV} {S : SV} {hk m n : Nat} (h : ¬ (bc n = m ∧ okN B S hk n)) : nailT B S hk m n = -9 := by
  unfold nailT
  by_cases a : bc n = m
  · rw [if_pos a]
    by_cases b : nI n &&& (freeP B S ^^^ (-1)) = 0
    · rw [if_pos b]
      by_cases c : stayP B S hk (nI n) = 0
      · rw [if_pos c]
      · exact absurd ⟨a, b, c⟩ h
    · rw [if_neg b]
  · rw [if_neg a]
theorem bc_pow : ∀ H, H ≤ 5 → ∀ n, n < 2 ^ H → bc n ≤ H := by decide +kernel
theorem nails_b {B : BV} {S : SV} {hk : Nat} {b : Int32} (hw : wfB B) (h : bstN B S hk (2 ^ B.1.1) b) : nailsP B S hk = b := by
  have hw1 := hw.1
  have h32 : 2 ^ B.1.1 ≤ 2 ^ 5 := Nat.pow_le_pow_right (by decide) hw1.1
  unfold nailsP
  rcases h with ⟨rfl, hno⟩ | ⟨n0, hn0, rfl, hok, hmin⟩
  · exact scan_none _ _ (fun m _ _ => scan_none _ _ (fun n _ hn => nailT_no (fun h => hno n (by omega) h.2)))
  · have e : scan (nailT B S hk (bc n0)) 0 (2 ^ B.1.1) = nI n0 := by
      rw [scan_first (k := n0) (fun n hn => nailT_no (fun h => by rcases hmin n (by omega) h.2 with h3 | ⟨-, h3⟩ <;> omega)) (by rw [nailT_ok hok]; exact nI_ne9 (by omega)) hn0, nailT_ok hok]
    have hb := bc_pow B.1.1 hw1.1 n0 hn0
    rw [scan_first (f := fun many => scan (nailT B S hk many) 0 (2 ^ B.1.1)) (k := bc n0) (fun m hm => scan_none _ _ (fun n _ hn => nailT_no (fun h => by rcases hmin n (by omega) h.2 with h3 | ⟨h3, -⟩ <;> omega))) (by rw [e]; exact nI_ne9 (by omega)) (by omega)]
    exact e
theorem bst_0 {B : BV} {S : SV} {hk : Nat} : bstN B S hk 0 (-9) := Or.inl ⟨rfl, fun n hn => absurd hn (Nat.not_lt_zero _)⟩
theorem bst_no {B : BV} {S : SV} {hk i : Nat} {b : Int32} (h : bstN B S hk i b) (hno : ¬ okN B S hk i) : bstN B S hk (i + 1) b := by
  rcases h with ⟨h1, h2⟩ | ⟨n0, h1, h2, h3, h4⟩
  · exact Or.inl ⟨h1, fun n hn => by by_cases e : n = i; (rw [e]; exact hno); exact h2 n (by omega)⟩
  · exact Or.inr ⟨n0, by omega, h2, h3, fun n hn hok => by by_cases e : n = i; (rw [e] at hok; exact absurd hok hno); exact h4 n (by omega) hok⟩
theorem bst_skip {B : BV} {S : SV} {hk i n0 : Nat} {b : Int32} (h : bstN B S hk i b) (hb : b = nI n0) (hn : n0 < i) (hi : i < 1000) (hle : bc n0 ≤ bc i) : bstN B S hk (i + 1) b := by
  rcases h with ⟨h1, h2⟩ | ⟨n1, h1, h2, h3, h4⟩
  · exact absurd (hb.symm.trans h1) (nI_ne9 (by omega))
  · have e : n1 = n0 := by
      have := h2.symm.trans hb
      rwa [nI_eq (by omega) (by omega)] at this
    subst e
    exact Or.inr ⟨n1, by omega, h2, h3, fun n hn hok => by by_cases e : n = i; (rw [e]; omega); exact h4 n (by omega) hok⟩
theorem bst_new {B : BV} {S : SV} {hk i : Nat} {b : Int32} (h : bstN B S hk i b) (hi : i < 1000) (hlt : b = -9 ∨ ∃ n0, b = nI n0 ∧ n0 < i ∧ bc i < bc n0) (hok : okN B S hk i) : bstN B S hk (i + 1) (nI i) := by
  refine Or.inr ⟨i, by omega, rfl, hok, fun n hn hn2 => ?_⟩
  by_cases e : n = i
  · right; rw [e]; exact ⟨rfl, Nat.le_refl _⟩
  · rcases h with ⟨h1, h2⟩ | ⟨n1, h1, h2, h3, h4⟩
    · exact absurd hn2 (h2 n (by omega))
    · rcases hlt with h5 | ⟨n0, h5, h6, h7⟩
      · exact absurd (h2.symm.trans h5) (nI_ne9 (by omega))
      · have e : n1 = n0 := by
          have := h2.symm.trans h5
          rwa [nI_eq (by omega) (by omega)] at this
        subst e
        rcases h4 n (by omega) hn2 with h8 | ⟨h8, -⟩ <;> omega
