def addH (B : BV) (w f c : Int32) : BV := ((B.1.1 + 1, B.1.2.1, B.1.2.2), u2 (u2 (u2 B.2 1 B.1.1 w) 2 B.1.1 f) 3 B.1.1 c)
def addT (B : BV) (w f c : Int32) : BV := ((B.1.1, B.1.2.1 + 1, B.1.2.2), u2 (u2 (u2 B.2 4 B.1.2.1 w) 5 B.1.2.1 f) 6 B.1.2.1 c)
def addL (B : BV) (w f c : Int32) : BV := ((B.1.1, B.1.2.1, B.1.2.2 + 1), u2 (u2 (u2 B.2 7 B.1.2.2 w) 8 B.1.2.2 f) 9 B.1.2.2 c)
theorem isB_addH {F A : mmF} {b : Nat} {B : BV} (w f c : Int32) (hB : isB F A b B) : isB (u2 F b 9 (nI (B.1.1 + 1))) (u2 (u2 (u2 A (b + 1) B.1.1 w) (b + 2) B.1.1 f) (b + 3) B.1.1 c) b (addH B w f c) := by
  refine ⟨⟨by simp [u2, va_up, addH], by simp [u2, va_up, addH, hB.1.2.1], by simp [u2, va_up, addH, hB.1.2.2]⟩, fun h hh => ?_, fun t ht => ?_, fun i hi => ?_⟩
  · simp only [addH] at hh ⊢
    by_cases e : h = B.1.1
    · subst e; simp [u2, va_up]
    · have := hB.2.1 h (by omega)
      simp [u2, va_up, e, this]
  · have := hB.2.2.1 t ht
    simp [u2, va_up, addH, this]
  · have := hB.2.2.2 i hi
    simp [u2, va_up, addH, this]
theorem isB_addT {F A : mmF} {b : Nat} {B : BV} (w f c : Int32) (hB : isB F A b B) : isB (u2 F b 10 (nI (B.1.2.1 + 1))) (u2 (u2 (u2 A (b + 4) B.1.2.1 w) (b + 5) B.1.2.1 f) (b + 6) B.1.2.1 c) b (addT B w f c) := by
  refine ⟨⟨by simp [u2, va_up, addT, hB.1.1], by simp [u2, va_up, addT], by simp [u2, va_up, addT, hB.1.2.2]⟩, fun h hh => ?_, fun t ht => ?_, fun i hi => ?_⟩
  · have := hB.2.1 h hh
    simp [u2, va_up, addT, this]
  · simp only [addT] at ht ⊢
    by_cases e : t = B.1.2.1
    · subst e; simp [u2, va_up]
    · have := hB.2.2.1 t (by omega)
      simp [u2, va_up, e, this]
  · have := hB.2.2.2 i hi
    simp [u2, va_up, addT, this]
theorem isB_addL {F A : mmF} {b : Nat} {B : BV} (w f c : Int32) (hB : isB F A b B) : isB (u2 F b 11 (nI (B.1.2.2 + 1))) (u2 (u2 (u2 A (b + 7) B.1.2.2 w) (b + 8) B.1.2.2 f) (b + 9) B.1.2.2 c) b (addL B w f c) := by
  refine ⟨⟨by simp [u2, va_up, addL, hB.1.1], by simp [u2, va_up, addL, hB.1.2.1], by simp [u2, va_up, addL]⟩, fun h hh => ?_, fun t ht => ?_, fun i hi => ?_⟩
  · have := hB.2.1 h hh
    simp [u2, va_up, addL, this]
  · have := hB.2.2.1 t ht
    simp [u2, va_up, addL, this]
  · simp only [addL] at hi ⊢
    by_cases e : i = B.1.2.2
    · subst e; simp [u2, va_up]
    · have := hB.2.2.2 i (by omega)
      simp [u2, va_up, e, this]
/-- only the booth at b has changed -/
def frB (b : Nat) (F A F1 A1 : mmF) : Prop := (∀ r, r ≠ b → F1 r = F r) ∧ ∀ r, r < b + 1 ∨ b + 9 < r → A1 r = A r
theorem frB.refl (b : Nat) (F A : mmF) : frB b F A F A := ⟨fun _ _ => rfl, fun _ _ => rfl⟩
theorem frB.trans {b : Nat} {F A F1 A1 F2 A2 : mmF} (h : frB b F A F1 A1) (h2 : frB b F1 A1 F2 A2) : frB b F A F2 A2 := ⟨fun r hr => (h2.1 r hr).trans (h.1 r hr), fun r hr => (h2.2 r hr).trans (h.2 r hr)⟩
/-- reading one part of the text (tx, n bytes) at the place p: the booth then, and the fault (-9: none) -/
def readHP (tx : Nat → Int32) (n : Nat) (B : BV) (p : Nat) : BV × Int32 :=
  if B.1.1 < 5 then
    (if figP tx n (p + 1) 0 7 = -9 then (B, nI (p + 1)) else if hAt (B.2 1) (figP tx n (p + 1) 0 7) 0 B.1.1 = -9 then
      (if figP tx n (p + 2) 1 9 = -9 then (B, nI (p + 2)) else if figP tx n (p + 3) 0 3 = -9 then (B, nI (p + 3)) else (addH B (figP tx n (p + 1) 0 7) (figP tx n (p + 2) 1 9) (figP tx n (p + 3) 0 3), -9))
    else (B, nI (p + 1)))
  else (B, nI p)
def readTP (tx : Nat → Int32) (n : Nat) (B : BV) (p : Nat) : BV × Int32 :=
  if B.1.2.1 < 4 then
    (if figP tx n (p + 1) 0 3 = -9 then (B, nI (p + 1)) else if figP tx n (p + 2) 1 9 = -9 then (B, nI (p + 2)) else if figP tx n (p + 3) 0 3 = -9 then (B, nI (p + 3)) else (addT B (figP tx n (p + 1) 0 3) (figP tx n (p + 2) 1 9) (figP tx n (p + 3) 0 3), -9))
  else (B, nI p)
def readLP (tx : Nat → Int32) (n : Nat) (B : BV) (p : Nat) : BV × Int32 :=
  if 4 ≤ B.1.2.2 then (B, nI p) else if 2 ≤ B.1.1 then
    (if figP tx n (p + 1) 0 (nI (B.1.1 - 1)) = -9 then (B, nI (p + 1)) else if figP tx n (p + 2) 0 (nI (B.1.1 - 1)) = -9 then (B, nI (p + 2)) else if figP tx n (p + 2) 0 (nI (B.1.1 - 1)) = figP tx n (p + 1) 0 (nI (B.1.1 - 1)) then (B, nI (p + 2)) else if figP tx n (p + 3) 0 1 = -9 then (B, nI (p + 3)) else (addL B (figP tx n (p + 1) 0 (nI (B.1.1 - 1))) (figP tx n (p + 2) 0 (nI (B.1.1 - 1))) (figP tx n (p + 3) 0 1), -9))
  else (B, nI p)
def letP (tx : Nat → Int32) (n p : Nat) : Int32 := if p < n then tx p else -9
def readQP (tx : Nat → Int32) (n : Nat) (B : BV) (p : Nat) : BV × Int32 :=
  if letP tx n p = 72 then readHP tx n B p else if letP tx n p = 84 then readTP tx n B p else if letP tx n p = 76 then readLP tx n B p else (B, nI p)
def partsP (tx : Nat → Int32) (n : Nat) : Nat → Nat → BV → BV × Int32
  | 0, _, B => (B, -9)
  | f + 1, p, B => if p < n then (if (readQP tx n B p).2 = -9 then partsP tx n f (p + 4) (readQP tx n B p).1 else readQP tx n B p) else (B, -9)
def noB : BV := ((0, 0, 0), fun _ _ => 0)
/-- what a text tells: the booth, and its fault -/
def readP (tx : Nat → Int32) (n : Nat) : BV × Int32 :=
  if letP tx n 0 = 83 then (if figP tx n 1 0 2 = -9 then (noB, 1) else if figP tx n 2 0 9 = -9 then (noB, 2) else partsP tx n 60 3 noB) else (noB, 0)
theorem figP_or {tx : Nat → Int32} {n i lo up : Nat} (h : lo ≤ up) (hu : up < 100) : figP tx n i (nI lo) (nI up) = -9 ∨ ∃ q, lo ≤ q ∧ q ≤ up ∧ figP tx n i (nI lo) (nI up) = nI q := by
  unfold figP
  generalize (if i < n then tx i else -9) - 48 = v
  split
  · exact Or.inl rfl
  · split
    · exact Or.inl rfl
    · rename_i h1 h2
      have h3 := Int32.not_lt.mp h1
      have h4 := Int32.not_lt.mp h2
      have h0 : ¬ v < 0 := fun z => by
        have h5 : (0 : Int32) ≤ nI lo := nI_le (a := 0) (b := lo) (Nat.zero_le _) (by omega)
        exact absurd z (Int32.not_lt.mpr (Int32.le_trans h5 h3))
      obtain ⟨q, hq, rfl⟩ := nI_of h0
      rw [nI_leI (by omega) (by omega)] at h3
      rw [nI_leI (by omega) (by omega)] at h4
      exact Or.inr ⟨q, h3, h4, rfl⟩
theorem readHP_le (tx : Nat → Int32) (n : Nat) (B : BV) (p : Nat) (h : B.1.1 ≤ 5 ∧ B.1.2.1 ≤ 4 ∧ B.1.2.2 ≤ 4) : (readHP tx n B p).1.1.1 ≤ 5 ∧ (readHP tx n B p).1.1.2.1 ≤ 4 ∧ (readHP tx n B p).1.1.2.2 ≤ 4 := by
  unfold readHP; repeat' split
  all_goals first | exact h | (simp only [addH]; omega)
theorem readTP_le (tx : Nat → Int32) (n : Nat) (B : BV) (p : Nat) (h : B.1.1 ≤ 5 ∧ B.1.2.1 ≤ 4 ∧ B.1.2.2 ≤ 4) : (readTP tx n B p).1.1.1 ≤ 5 ∧ (readTP tx n B p).1.1.2.1 ≤ 4 ∧ (readTP tx n B p).1.1.2.2 ≤ 4 := by
  unfold readTP; repeat' split
  all_goals first | exact h | (simp only [addT]; omega)
theorem readLP_le (tx : Nat → Int32) (n : Nat) (B : BV) (p : Nat) (h : B.1.1 ≤ 5 ∧ B.1.2.1 ≤ 4 ∧ B.1.2.2 ≤ 4) : (readLP tx n B p).1.1.1 ≤ 5 ∧ (readLP tx n B p).1.1.2.1 ≤ 4 ∧ (readLP tx n B p).1.1.2.2 ≤ 4 := by
  unfold readLP; repeat' split
  all_goals first | exact h | (simp only [addL]; omega)
theorem readQP_le (tx : Nat → Int32) (n : Nat) (B : BV) (p : Nat) (h : B.1.1 ≤ 5 ∧ B.1.2.1 ≤ 4 ∧ B.1.2.2 ≤ 4) : (readQP tx n B p).1.1.1 ≤ 5 ∧ (readQP tx n B p).1.1.2.1 ≤ 4 ∧ (readQP tx n B p).1.1.2.2 ≤ 4 := by
  unfold readQP; repeat' split
  · exact readHP_le tx n B p h
  · exact readTP_le tx n B p h
  · exact readLP_le tx n B p h
  · exact h
