/-! the odds, row by row -/
def wtO (x : Int32) (lk : Nat) : Int32 := if lk = 0 then 2 * x else 10 - x
def ctO (B : BV) (t : Nat) (pl x : Int32) (hk : Nat) : Nat → Nat → SV → Int32
  | 0, _, S => if upP (S.2.2 2) (nI hk) = 0 then 1 else 0
  | m + 1, row, S => wtO x (row / 3 ^ m % 3) * ctO B t pl x hk m row (throwP B S t pl (nI (row / 3 ^ m % 3))).1
theorem ctO_0 {B : BV} {t hk row : Nat} {pl x : Int32} {S : SV} : ctO B t pl x hk 0 row S = if upP (S.2.2 2) (nI hk) = 0 then 1 else 0 := by rw [ctO]
theorem ctO_s {B : BV} {t hk row m : Nat} {pl x : Int32} {S : SV} : ctO B t pl x hk (m + 1) row S = wtO x (row / 3 ^ m % 3) * ctO B t pl x hk m row (throwP B S t pl (nI (row / 3 ^ m % 3))).1 := by rw [ctO]
theorem ctO_lo {B : BV} {t hk c M : Nat} {pl x : Int32} : ∀ m row S, m ≤ M → ctO B t pl x hk m (c * 3 ^ M + row) S = ctO B t pl x hk m row S
  | 0, row, S, _ => by rw [ctO_0, ctO_0]
  | m + 1, row, S, h => by rw [ctO_s, ctO_s, dig_lo (by decide) (by omega), ctO_lo m _ _ (by omega)]
theorem sum_q {f : Nat → Int32} : ∀ (l : List Nat) (q : Int32), l.foldl (fun q r => q + f r) q = q + l.foldl (fun q r => q + f r) 0
  | [], q => (Int32.add_zero q).symm
  | a :: l, q => by rw [List.foldl_cons, List.foldl_cons, sum_q l (q + f a), sum_q l (0 + f a), Int32.zero_add, Int32.add_assoc]
theorem sum_c {f : Nat → Int32} {c : Int32} : ∀ (l : List Nat), l.foldl (fun q r => q + c * f r) 0 = c * l.foldl (fun q r => q + f r) 0
  | [] => Int32.mul_zero.symm
  | a :: l => by
    rw [List.foldl_cons, List.foldl_cons, sum_q (f := fun r => c * f r) l (0 + c * f a), sum_q l (0 + f a), sum_c l, Int32.zero_add, Int32.zero_add, Int32.mul_add]
theorem wayP_0 {B : BV} {t hk : Nat} {pl x : Int32} {S : SV} : wayP B t pl x hk 0 S = if upP (S.2.2 2) (nI hk) = 0 then 1 else 0 := by rw [wayP]
theorem ctO_all {B : BV} {t hk : Nat} {pl x : Int32} : ∀ m S, (List.range' 0 (3 ^ m)).foldl (fun q row => q + ctO B t pl x hk m row S) 0 = wayP B t pl x hk m S := by
  intro m
  induction m with
  | zero => intro S; rw [Nat.pow_zero, List.range'_succ, List.foldl_cons, ctO_0, wayP_0, Int32.zero_add]; exact List.foldl_nil
  | succ m ih =>
    intro S
    rw [Nat.pow_succ, Nat.mul_comm, foldl_mul, wayP]
    refine foldl_cong _ _ (fun q w hw => ?_)
    have hw3 : w < 3 := by have := List.mem_range'.mp hw; omega
    rw [foldl_cong (g := fun q r => q + wtO x w * ctO B t pl x hk m r (throwP B S t pl (nI w)).1) _ _ (fun q r hr => by
      have hr2 : r < 3 ^ m := by have := List.mem_range'.mp hr; omega
      rw [ctO_s, dig_hi hw3 hr2, ctO_lo _ _ _ (Nat.le_refl _)])]
    rw [sum_q (f := fun r => wtO x w * ctO B t pl x hk m r (throwP B S t pl (nI w)).1), sum_c, ih]
    rw [wtO]
theorem wOdds_no {Q : QV} {t pl n h x u : Int32} (h1 : ¬ isIn t (nI (qB Q).1.2.1) = 0) (h2 : ¬ isIn h (nI (qB Q).1.1) = 0) (h3 : isIn pl 8 = 0 ∨ inP n 1 4 = 0 ∨ inP x 0 10 = 0) : wOdds Q t pl n h x u = -2 := by
  unfold wOdds
  rw [if_neg h1, if_neg h2]
  by_cases a : isIn pl 8 = 0
  · rw [if_pos a]
  · rw [if_neg a]
    by_cases b : n < 1
    · rw [if_pos b]
    · rw [if_neg b]
      by_cases c : (4 : Int32) < n
      · rw [if_pos c]
      · rw [if_neg c]
        by_cases d : x < 0
        · rw [if_pos d]
        · rw [if_neg d]
          rcases h3 with h3 | h3 | h3
          · exact absurd h3 a
          · rcases inP_0 h3 with h4 | ⟨-, h4⟩
            · exact absurd h4 b
            · exact absurd h4 c
          · rcases inP_0 h3 with h4 | ⟨-, h4⟩
            · exact absurd h4 d
            · rw [if_neg (Int32.not_le.mpr h4)]
