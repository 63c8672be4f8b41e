/-! what a throw leaves of the pennies -/
def up6 (S : SV) (v : Int32) : SV := (S.1, S.2.1, va_up S.2.2 6 v)
theorem up6_j {S : SV} {v : Int32} {j : Nat} (h : j ≠ 6) : (up6 S v).2.2 j = S.2.2 j := by unfold up6; exact va_up_ne _ _ h
theorem up_comm {f : Nat → Int32} {a b : Nat} {x y : Int32} (h : a ≠ b) : va_up (va_up f a x) b y = va_up (va_up f b y) a x := by
  funext j
  by_cases e : j = a
  · subst e; rw [va_up_ne _ _ h, va_up_self, va_up_self]
  · rw [va_up_ne _ _ e]
    by_cases e2 : j = b
    · subst e2; rw [va_up_self, va_up_self]
    · rw [va_up_ne _ _ e2, va_up_ne _ _ e2, va_up_ne _ _ e]
theorem set_up6 (S : SV) (v : Int32) (h : Nat) : setS (up6 S v) h = up6 (setS S h) v := by
  have e : (up6 S v).2.2 2 = S.2.2 2 := up6_j (by decide)
  unfold setS
  rw [e]
  split
  · rfl
  · unfold up6; dsimp only; rw [up_comm (by decide)]
theorem fall_up6 {B : BV} {v : Int32} : ∀ n S h fl, fallP B n (up6 S v) h fl = (up6 (fallP B n S h fl).1 v, (fallP B n S h fl).2)
  | 0, S, h, fl => rfl
  | n + 1, S, h, fl => by
    unfold fallP
    refine foldl_inv2 (p := fun (c d : SV × Int32) => c = (up6 d.1 v, d.2)) _ _ _ (fun c d i _ hc => ?_) ?_
    · subst hc
      have e : (up6 d.1 v).2.2 2 = d.1.2.2 2 := up6_j (by decide)
      unfold stepL
      dsimp only
      rw [e]
      by_cases h1 : B.2 7 i = nI h
      · rw [if_pos h1, if_pos h1]
        by_cases h2 : B.2 9 i = 1
        · rw [if_pos h2, if_pos h2, set_up6]
        · rw [if_neg h2, if_neg h2]
          by_cases h3 : bt (d.1.2.2 2) (nI (jn B i)) = 0
          · rw [if_pos h3, if_pos h3]
            by_cases h4 : bt d.2 (nI (jn B i)) = 0
            · rw [if_pos h4, if_pos h4, fall_up6 n]
            · rw [if_neg h4, if_neg h4]
          · rw [if_neg h3, if_neg h3]
      · rw [if_neg h1, if_neg h1]
    · have e : (up6 S v).2.2 2 = S.2.2 2 := up6_j (by decide)
      rw [e]
      unfold up6; dsimp only; rw [up_comm (by decide)]
theorem strike_up6 {B : BV} {S : SV} {v : Int32} {t h : Nat} : (strikeP B (up6 S v) t h).1 = up6 (strikeP B S t h).1 v := by
  have e1 : hitS B (up6 S v) t h = up6 (hitS B S t h) v := rfl
  have e2 : firmB B (up6 (hitS B S t h) v) h = firmB B (hitS B S t h) h := by
    unfold firmB
    rw [show (up6 (hitS B S t h) v).2.2 4 = (hitS B S t h).2.2 4 from up6_j (by decide), show (up6 (hitS B S t h) v).2.2 3 = (hitS B S t h).2.2 3 from up6_j (by decide)]
    rfl
  have e3 : (up6 S v).2.2 3 = S.2.2 3 := up6_j (by decide)
  unfold strikeP
  rw [e1, e2, e3]
  by_cases a : firmB B (hitS B S t h) h ≤ (hitS B S t h).1 h
  · rw [if_pos (show firmB B (hitS B S t h) h ≤ (up6 (hitS B S t h) v).1 h from a), if_pos a]
    by_cases b : B.2 3 h = 3
    · rw [if_pos b, if_pos b]
      by_cases c : bt (S.2.2 3) (nI h) = 0
      · rw [if_pos c, if_pos c]
        unfold up6; dsimp only; rw [up_comm (by decide)]
      · rw [if_neg c, if_neg c, fall_up6]
    · rw [if_neg b, if_neg b, fall_up6]
  · rw [if_neg (show ¬ firmB B (hitS B S t h) h ≤ (up6 (hitS B S t h) v).1 h from a), if_neg a]
theorem strike_dec {B : BV} {S : SV} {t h : Nat} : (strikeP B (S.1, S.2.1, va_up S.2.2 6 (S.2.2 6 - 1)) t h).1 = up6 (strikeP B S t h).1 ((strikeP B S t h).1.2.2 6 - 1) := by
  rw [strike_j (by decide) (by decide)]; exact strike_up6
theorem in_isIn2 {h : Int32} {n : Nat} (hn : n < 2 ^ 30) : inP h 0 (nI n - 1) = isIn h (nI n) := by
  unfold inP isIn
  split
  · rfl
  · rename_i h0
    obtain ⟨j, hj, rfl⟩ := nI_of h0
    have e : nI n - 1 < nI j ↔ nI n ≤ nI j := by
      rw [Int32.lt_iff_toInt_lt, nI_leI (by omega) hj, nI_toInt hj, show (1 : Int32) = nI 1 from rfl, pk_sub_toInt hn (by decide)]
      omega
    simp only [e]
theorem hu_nI5 {m : Nat} (h : m < 5) : mm_hu m = nI (100 ^ m) := by
  rcases (show m = 0 ∨ m = 1 ∨ m = 2 ∨ m = 3 ∨ m = 4 by omega) with rfl | rfl | rfl | rfl | rfl <;> rfl
theorem pw5 {m : Nat} (h : m < 5) : 0 < 100 ^ m ∧ 100 ^ m ≤ 100000000 := by
  rcases (show m = 0 ∨ m = 1 ∨ m = 2 ∨ m = 3 ∨ m = 4 by omega) with rfl | rfl | rfl | rfl | rfl <;> decide
theorem wJudge_no1 {Q : QV} {x y : Int32} (h : inP x 1 4 = 0) : wJudge Q x y = -2 := by
  unfold wJudge
  rcases inP_0 h with h | ⟨h, h2⟩
  · rw [if_pos h]
  · rw [if_neg h, if_pos h2]
theorem wJudge_no2 {Q : QV} {n : Nat} {y : Int32} (h1 : 1 ≤ n) (h4 : n ≤ 4) (h : isIn y (nI (100 ^ n)) = 0) : wJudge Q (nI n) y = -2 := by
  unfold wJudge
  rw [if_neg (show ¬ nI n < 1 from nI_nlt (b := 1) h1 (by omega)), if_neg (show ¬ (4 : Int32) < nI n from nI_nlt (a := 4) h4 (by omega)), nI_clamp (by omega), hu_nI5 (by omega)]
  unfold isIn at h; split at h
  · rename_i h5; rw [if_pos h5]
  · rename_i h5
    split at h
    · rename_i h6; rw [if_neg h5, if_neg (Int32.not_lt.mpr h6)]
    · exact absurd h (by decide)
theorem wJudge_yes {Q : QV} {n row : Nat} (h1 : 1 ≤ n) (h4 : n ≤ 4) (h : row < 100 ^ n) : wJudge Q (nI n) (nI row) = judP (qB Q) row n 0 n (qS Q) := by
  have hp := pw5 (m := n) (by omega)
  unfold wJudge
  rw [if_neg (show ¬ nI n < 1 from nI_nlt (b := 1) h1 (by omega)), if_neg (show ¬ (4 : Int32) < nI n from nI_nlt (a := 4) h4 (by omega)), if_neg (nI_pos (by omega)), nI_clamp (by omega), hu_nI5 (by omega), if_pos (nI_lt h (by omega)), nI_clamp (by omega)]
