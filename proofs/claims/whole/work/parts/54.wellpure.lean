/-! the state stays well-formed -/
def wfR (Q : QV) : Prop := wfQ Q ∧ ∀ i, i < (qE Q).1 → (qE Q).2 2 i = 0 ∨ (qE Q).2 2 i = 1
theorem wfR_st {Q : QV} {S : SV} (h : wfR Q) (hS : wfS (qB Q) S) : wfR (stQ (remQ Q) S) := by
  obtain ⟨⟨h1, h2, h3, ⟨h4, h5⟩, h6, h7⟩, h8⟩ := h
  refine ⟨⟨h1, h2, hS, ⟨?_, ?_⟩, h6, h7⟩, h8⟩
  · show (pushA (qA Q) (qS Q)).length ≤ 14
    rw [pushA_len h4]; split <;> omega
  · intro T hT
    have hT : T ∈ pushA (qA Q) (qS Q) := hT
    unfold pushA at hT
    split at hT
    · rcases List.mem_append.mp hT with h | h
      · exact h5 T h
      · rw [List.mem_singleton.mp h]; exact h3
    · rcases List.mem_append.mp hT with h | h
      · exact h5 T (List.mem_of_mem_tail h)
      · rw [List.mem_singleton.mp h]; exact h3
theorem wfR_write {Q : QV} {x : Int32} (h : wfR Q) : wfR (wWrite Q x).1 := by
  unfold wWrite
  by_cases a : x < 0
  · rw [if_pos a]; exact h
  · rw [if_neg a]
    by_cases b : (255 : Int32) < x
    · rw [if_pos b]; exact h
    · rw [if_neg b]
      by_cases c : Q.1.1 < 60
      · rw [if_pos c]; exact ⟨⟨c, h.1.2⟩, h.2⟩
      · rw [if_neg c]; exact h
theorem wfR_wipe {Q : QV} (h : wfR Q) : wfR (wWipe Q).1 := ⟨⟨Nat.zero_le _, h.1.2⟩, h.2⟩
theorem wfR_fair {Q : QV} (h : wfR Q) : wfR (wFair Q).1 := by
  unfold wFair
  by_cases a : (readP Q.1.2 Q.1.1).2 = -9
  · rw [if_pos a]
    have hb := wfB_read Q.1.2 Q.1.1
    have hf : ¬ figP Q.1.2 Q.1.1 1 0 2 = -9 ∧ ¬ figP Q.1.2 Q.1.1 2 0 9 = -9 := by
      unfold readP at a
      by_cases b : letP Q.1.2 Q.1.1 0 = 83
      · rw [if_pos b] at a
        by_cases c : figP Q.1.2 Q.1.1 1 0 2 = -9
        · rw [if_pos c] at a; exact absurd a (by decide)
        · rw [if_neg c] at a
          by_cases d : figP Q.1.2 Q.1.1 2 0 9 = -9
          · rw [if_pos d] at a; exact absurd a (by decide)
          · exact ⟨c, d⟩
      · rw [if_neg b] at a; exact absurd a (by decide)
    obtain ⟨w, -, hw, ew⟩ := fig_nat (lo := 0) (up := 2) (by decide) (by decide) hf.1
    obtain ⟨p, -, hp, ep⟩ := fig_nat (lo := 0) (up := 9) (by decide) (by decide) hf.2
    have ew' : figP Q.1.2 Q.1.1 1 0 2 = nI w := ew
    have ep' : figP Q.1.2 Q.1.1 2 0 9 = nI p := ep
    rw [ew', ep']
    exact ⟨⟨h.1.1, hb, wfS_new (by omega) (by omega), ⟨Nat.zero_le _, fun S hS => absurd hS List.not_mem_nil⟩, h.1.2.2.2.2.1, fun j S hS => absurd (show (none : Option SV) = some S from hS) (by simp)⟩, h.2⟩
  · rw [if_neg a]; exact h
theorem wfR_toss {Q : QV} {t pl lk : Int32} (h : wfR Q) : wfR (wToss Q t pl lk).1 := by
  unfold wToss
  by_cases a : noTh Q t pl lk = -9
  · rw [if_pos a]
    by_cases b : (qS Q).2.2 6 = 0
    · rw [if_pos b]; exact h
    · rw [if_neg b]; exact wfR_st h (wfS_throw h.1.2.1 (wfS_dec h.1.2.2.1 b))
  · rw [if_neg a]; exact h
theorem wfR_set {Q : QV} {x : Int32} (h : wfR Q) : wfR (wSet Q x).1 := by
  have hw1 := h.1.2.1.1
  unfold wSet
  by_cases a : isIn x (nI (qB Q).1.1) = 0
  · rw [if_pos a]; exact h
  · rw [if_neg a]
    obtain ⟨j, hj, rfl⟩ := isIn_nat (by omega) a
    by_cases b : bt ((qS Q).2.2 2) (nI j) = 0
    · rw [if_pos b]; exact h
    · rw [if_neg b, nI_clamp (by omega)]; exact wfR_st h (wfS_set (by omega) h.1.2.2.1)
theorem wfR_nail {Q : QV} {x : Int32} (h : wfR Q) : wfR (wNail Q x).1 := by
  unfold wNail
  by_cases a : isIn x (nI (qB Q).1.1) = 0
  · rw [if_pos a]; exact h
  · rw [if_neg a]
    by_cases b : bt ((qS Q).2.2 2) x = 0
    · rw [if_pos b]; exact wfR_st h (wfS_nail h.1.2.2.1)
    · rw [if_neg b]; exact h
theorem wfR_pay {Q : QV} (h : wfR Q) : wfR (wPay Q).1 := by
  unfold wPay
  by_cases a : (qS Q).2.2 6 < 9
  · rw [if_pos a]; exact wfR_st h (wfS_pay h.1.2.2.1)
  · rw [if_neg a]; exact h
theorem wfR_blow {Q : QV} {x : Int32} (h : wfR Q) : wfR (wBlow Q x).1 := by
  unfold wBlow
  by_cases a : x < 0
  · rw [if_pos a]; exact h
  · rw [if_neg a]
    by_cases b : x ≤ 2
    · rw [if_pos b]
      by_cases c : x = (qS Q).2.2 5
      · rw [if_pos c]; exact h
      · rw [if_neg c]
        obtain ⟨n, hn, rfl⟩ := nI_of2 (n := 2) (M := 2) rfl a b
        exact wfR_st h (wfS_wind (by omega) h.1.2.2.1)
    · rw [if_neg b]; exact h
theorem wfR_undo {Q : QV} (h : wfR Q) : wfR (wUndo Q).1 := by
  unfold wUndo
  by_cases a : (qA Q).length = 0
  · rw [if_pos a]; exact h
  · rw [if_neg a]
    obtain ⟨⟨h1, h2, h3, ⟨h4, h5⟩, h6, h7⟩, h8⟩ := h
    refine ⟨⟨h1, h2, ?_, ⟨?_, fun S hS => h5 S ((List.dropLast_sublist (qA Q)).subset hS)⟩, h6, h7⟩, h8⟩
    · show wfS (qB Q) ((qA Q)[(qA Q).length - 1]?.getD (qS Q))
      rw [List.getElem?_eq_getElem (by omega)]
      exact h5 _ (List.getElem_mem _)
    · show (qA Q).dropLast.length ≤ 14
      rw [List.length_dropLast]; omega
theorem wfR_see {Q : QV} {a f x : Int32} (h : wfR Q) : wfR (wSee Q a f x).1 := by
  unfold wSee
  by_cases a1 : isIn a (nI (qB Q).1.1) = 0
  · rw [if_pos a1]; exact h
  · rw [if_neg a1]
    by_cases a2 : f < 1
    · rw [if_pos a2]; exact h
    · rw [if_neg a2]
      by_cases a3 : (11 : Int32) < f
      · rw [if_pos a3]; exact h
      · rw [if_neg a3]
        by_cases a4 : x < 0
        · rw [if_pos a4]; exact h
        · rw [if_neg a4]
          by_cases a5 : x ≤ 1
          · rw [if_pos a5]
            by_cases a6 : (qE Q).1 < 6
            · rw [if_pos a6]
              refine ⟨⟨h.1.1, h.1.2.1, h.1.2.2.1, h.1.2.2.2.1, a6, h.1.2.2.2.2.2⟩, fun i hi => ?_⟩
              obtain ⟨n, hn, rfl⟩ := nI_of2 (n := 1) (M := 1) rfl a4 a5
              show (u2 (u2 (u2 (qE Q).2 0 (qE Q).1 a) 1 (qE Q).1 f) 2 (qE Q).1 (nI n)) 2 i = 0 ∨ _
              have hi : i < (qE Q).1 + 1 := hi
              rw [u2_row]
              by_cases e : i = (qE Q).1
              · rw [e, va_up_self]
                rcases (show n = 0 ∨ n = 1 by omega) with rfl | rfl
                · exact Or.inl rfl
                · exact Or.inr (by show va_up (u2 (u2 (qE Q).2 0 (qE Q).1 a) 1 (qE Q).1 f 2) (qE Q).1 (nI 1) (qE Q).1 = 1; rw [va_up_self]; rfl)
              · have := h.2 i (by omega)
                rw [va_up_ne _ _ e]
                simpa [u2, va_up, e] using this
            · rw [if_neg a6]; exact h
          · rw [if_neg a5]; exact h
theorem wfR_unsee {Q : QV} (h : wfR Q) : wfR (wUnsee Q).1 := ⟨⟨h.1.1, h.1.2.1, h.1.2.2.1, h.1.2.2.2.1, Nat.zero_le _, h.1.2.2.2.2.2⟩, fun i hi => absurd hi (Nat.not_lt_zero _)⟩
theorem wfR_seed {Q : QV} {v : Int64} (h : wfR Q) : wfR (wSeed Q v).1 := ⟨h.1, h.2⟩
theorem wfR_fairs {Q : QV} {m : Int32} (h : wfR Q) : wfR (wFairs Q m).1 := by
  unfold wFairs
  by_cases a : m < 1
  · rw [if_pos a]; exact h
  · rw [if_neg a]
    by_cases b : m ≤ 30
    · rw [if_pos b]; exact ⟨h.1, h.2⟩
    · rw [if_neg b]; exact h
theorem wfR_keep {Q : QV} {x : Int32} (h : wfR Q) : wfR (wKeep Q x).1 := by
  unfold wKeep
  by_cases a : x < 0
  · rw [if_pos a]; exact h
  · rw [if_neg a]
    by_cases b : x < 2
    · rw [if_pos b]
      refine ⟨⟨h.1.1, h.1.2.1, h.1.2.2.1, h.1.2.2.2.1, h.1.2.2.2.2.1, fun j S hS => ?_⟩, h.2⟩
      have hS : va_up (qK Q) x.toNatClampNeg (some (qS Q)) j = some S := hS
      by_cases e : j = x.toNatClampNeg
      · rw [e, va_up_self] at hS; cases hS; exact h.1.2.2.1
      · rw [va_up_ne _ _ e] at hS; exact h.1.2.2.2.2.2 j S hS
    · rw [if_neg b]; exact h
theorem wfR_again {Q : QV} {x : Int32} (h : wfR Q) : wfR (wAgain Q x).1 := by
  unfold wAgain
  by_cases a : x < 0
  · rw [if_pos a]; exact h
  · rw [if_neg a]
    by_cases b : x < 2
    · rw [if_pos b]
      by_cases c : (qK Q x.toNatClampNeg).isSome = true
      · rw [if_pos c]
        refine ⟨⟨h.1.1, h.1.2.1, ?_, ⟨Nat.zero_le _, fun S hS => absurd hS List.not_mem_nil⟩, h.1.2.2.2.2.1, h.1.2.2.2.2.2⟩, h.2⟩
        show wfS (qB Q) ((qK Q x.toNatClampNeg).getD (qS Q))
        cases hq : qK Q x.toNatClampNeg with
        | none => rw [hq] at c; cases c
        | some S => exact h.1.2.2.2.2.2 _ S hq
      · rw [if_neg c]; exact h
    · rw [if_neg b]; exact h
/-- the state of a new object -/
def newQ : QV := ((0, fun _ => 0), ((0, 0, 0), fun _ _ => 0), (fun _ => 0, fun _ => 0, fun j => if j = 5 then 1 else 0), [], (0, fun _ _ => 0), fun _ => none, 0)
theorem wfR_new : wfR newQ := ⟨⟨by decide, wfB_no, ⟨⟨0, by decide, rfl⟩, ⟨0, by decide, rfl⟩, ⟨1, by decide, rfl⟩, fun h hh => absurd hh (Nat.not_lt_zero _)⟩, ⟨by decide, fun S hS => absurd hS List.not_mem_nil⟩, by decide, fun j S hS => absurd (show (none : Option SV) = some S from hS) (by simp)⟩, fun i hi => absurd hi (Nat.not_lt_zero _)⟩
