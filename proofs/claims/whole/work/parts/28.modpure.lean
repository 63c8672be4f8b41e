/-! THE MODEL'S WORDS. Its object is role 123; a page is a row of 15: loose, hits, halved, nails, down, wind, paid. -/
theorem wp_topL {Y : mmY} {X : mmX} {N pc : Nat} {lv : List (Nat × Value)} {st : List Value} {F A : mmF} {R : mmR} {G : mmG} {x x' : Int64} (h : x = x') (kk : WP Y X N pc lv (.long x' :: st) F A R G) : WP Y X N pc lv (.long x :: st) F A R G := by rw [h]; exact kk
def inP (x a b : Int32) : Int32 := if x < a then 0 else if b < x then 0 else 1
theorem wide_lt (a b : Int32) : a.toInt64 < b.toInt64 ↔ a < b := by rw [Int64.lt_iff_toInt_lt, Int32.lt_iff_toInt_lt, Int32.toInt_toInt64, Int32.toInt_toInt64]
theorem inP_nar {x a b : Int32} : narrow .boolean (.int (inP x a b)) = .int (inP x a b) := by
  unfold inP; split
  · rfl
  · split <;> rfl
def pgS (S : SV) (k : Nat) : Int32 := if k < 5 then S.1 k else if k < 10 then S.2.1 (k - 5) else if k = 10 then S.2.2 3 else if k = 11 then S.2.2 4 else if k = 12 then S.2.2 2 else if k = 13 then S.2.2 5 else S.2.2 6
def isP (A : mmF) (p : Nat) (S : SV) : Prop := ∀ k, k < 15 → A p k = pgS S k
/-- the model's booth: numbers from the field f on, rows from r on -/
def isM (F A : mmF) (f r : Nat) (B : BV) : Prop := F 123 f = nI B.1.1 ∧ F 123 (f + 2) = nI B.1.2.1 ∧ F 123 (f + 4) = nI B.1.2.2 ∧ (∀ h, h < B.1.1 → ∀ m, m < 3 → A r (3 * h + m) = B.2 (1 + m) h) ∧ (∀ t, t < B.1.2.1 → ∀ m, m < 3 → A (r + 1) (3 * t + m) = B.2 (4 + m) t) ∧ ∀ i, i < B.1.2.2 → ∀ m, m < 3 → A (r + 2) (3 * i + m) = B.2 (7 + m) i
def pg (p : Nat) : Prop := p = 131 ∨ p = 132 ∨ p = 133
theorem pg_k {p : Nat} (h : pg p) : mm_K p = 11 := by rcases h with rfl | rfl | rfl <;> rfl
theorem pg_l {p : Nat} (h : pg p) : p < 144 := by rcases h with rfl | rfl | rfl <;> decide
theorem pg_i {p j : Nat} (h : pg p) (hj : j < 15) : j < mm_len p := by rcases h with rfl | rfl | rfl <;> exact hj
theorem isP_l {A : mmF} {p h : Nat} {S : SV} (hP : isP A p S) (hh : h < 5) : A p (0 + h) = S.1 h := by
  have := hP (0 + h) (by omega)
  rw [this]; simp [pgS, hh]
theorem isP_h {A : mmF} {p h : Nat} {S : SV} (hP : isP A p S) (hh : h < 5) : A p (5 + h) = S.2.1 h := by
  have := hP (5 + h) (by omega)
  rw [this]; simp [pgS, show 5 + h < 10 by omega, show ¬ 5 + h < 5 by omega]
theorem isP_c {A A1 : mmF} {p : Nat} {S : SV} (hP : isP A p S) (e : A1 p = A p) : isP A1 p S := fun k hk => by rw [e]; exact hP k hk
theorem isP_up {A : mmF} {p i : Nat} {v : Int32} {S S' : SV} (hP : isP A p S) (h1 : pgS S' i = v) (h2 : ∀ k, k < 15 → k ≠ i → pgS S' k = pgS S k) : isP (u2 A p i v) p S' := by
  intro k hk
  rw [u2_row]
  by_cases e : k = i
  · subst e; rw [va_up_self, h1]
  · rw [va_up_ne _ _ e, hP k hk, h2 k hk e]
theorem k15 {p : Nat → Prop} (h : p 0 ∧ p 1 ∧ p 2 ∧ p 3 ∧ p 4 ∧ p 5 ∧ p 6 ∧ p 7 ∧ p 8 ∧ p 9 ∧ p 10 ∧ p 11 ∧ p 12 ∧ p 13 ∧ p 14) : ∀ k, k < 15 → p k := by
  intro k hk
  obtain ⟨h0, h1, h2, h3, h4, h5, h6, h7, h8, h9, h10, h11, h12, h13, h14⟩ := h
  rcases (show k = 0 ∨ k = 1 ∨ k = 2 ∨ k = 3 ∨ k = 4 ∨ k = 5 ∨ k = 6 ∨ k = 7 ∨ k = 8 ∨ k = 9 ∨ k = 10 ∨ k = 11 ∨ k = 12 ∨ k = 13 ∨ k = 14 by omega) with rfl | rfl | rfl | rfl | rfl | rfl | rfl | rfl | rfl | rfl | rfl | rfl | rfl | rfl | rfl <;> assumption
theorem isP_lo {A : mmF} {p h : Nat} {v : Int32} {S : SV} (hP : isP A p S) (hh : h < 5) : isP (u2 A p (0 + h) v) p (va_up S.1 h v, S.2.1, S.2.2) := by
  refine isP_up hP (by simp [pgS, hh, va_up]) (fun k hk e => ?_)
  unfold pgS; split
  · exact va_up_ne _ _ (by omega)
  · rfl
theorem isP_hi {A : mmF} {p h : Nat} {v : Int32} {S : SV} (hP : isP A p S) (hh : h < 5) : isP (u2 A p (5 + h) v) p (S.1, va_up S.2.1 h v, S.2.2) := by
  refine isP_up hP (by simp [pgS, show 5 + h < 10 by omega, show ¬ 5 + h < 5 by omega, va_up]) (fun k hk e => ?_)
  unfold pgS; split
  · rfl
  · split
    · exact va_up_ne _ _ (by omega)
    · rfl
theorem isP_10 {A : mmF} {p : Nat} {v : Int32} {S : SV} (hP : isP A p S) : isP (u2 A p 10 v) p (S.1, S.2.1, va_up S.2.2 3 v) := by
  refine isP_up hP (by simp [pgS, va_up]) (k15 ?_)
  simp [pgS, va_up]
theorem isP_11 {A : mmF} {p : Nat} {v : Int32} {S : SV} (hP : isP A p S) : isP (u2 A p 11 v) p (S.1, S.2.1, va_up S.2.2 4 v) := by
  refine isP_up hP (by simp [pgS, va_up]) (k15 ?_)
  simp [pgS, va_up]
theorem isP_12 {A : mmF} {p : Nat} {v : Int32} {S : SV} (hP : isP A p S) : isP (u2 A p 12 v) p (S.1, S.2.1, va_up S.2.2 2 v) := by
  refine isP_up hP (by simp [pgS, va_up]) (k15 ?_)
  simp [pgS, va_up]
theorem isP_13 {A : mmF} {p : Nat} {v : Int32} {S : SV} (hP : isP A p S) : isP (u2 A p 13 v) p (S.1, S.2.1, va_up S.2.2 5 v) := by
  refine isP_up hP (by simp [pgS, va_up]) (k15 ?_)
  simp [pgS, va_up]
theorem isP_14 {A : mmF} {p : Nat} {v : Int32} {S : SV} (hP : isP A p S) : isP (u2 A p 14 v) p (S.1, S.2.1, va_up S.2.2 6 v) := by
  refine isP_up hP (by simp [pgS, va_up]) (k15 ?_)
  simp [pgS, va_up]
theorem in_isIn {h : Int32} {n : Nat} (hn : n < 100) : inP h 0 (nI n - 1) = isIn h (nI n) := by
  unfold inP isIn
  split
  · rfl
  · rename_i h0
    obtain ⟨j, hj, rfl⟩ := nI_of h0
    have e : nI n - 1 < nI j ↔ nI n ≤ nI j := by
      rw [Int32.lt_iff_toInt_lt, nI_leI (by omega) hj, nI_toInt hj, show (1 : Int32) = nI 1 from rfl, pk_sub_toInt (by omega) (by decide)]
      omega
    simp only [e]
theorem in8 {h : Int32} : inP h 0 7 = isIn h 8 := in_isIn (n := 8) (by decide)
theorem in3 {h : Int32} : inP h 0 2 = isIn h 3 := in_isIn (n := 3) (by decide)
theorem in2 {h : Int32} : inP h 0 1 = isIn h 2 := in_isIn (n := 2) (by decide)
/-- the first i of five bits -/
def bcs (n : Nat) : Nat → Nat
  | 0 => 0
  | i + 1 => bcs n i + n / 2 ^ i % 2
theorem bcs_5 (n : Nat) : bcs n 5 = bc n := by simp [bcs, bc]
theorem bt_nI : ∀ n, n < 32 → ∀ j, j < 5 → bt (nI n) (nI j) = nI (n / 2 ^ j % 2) := by decide +kernel
theorem bcs_le (n : Nat) : ∀ i, bcs n i ≤ i
  | 0 => Nat.le_refl _
  | i + 1 => by have := bcs_le n i; have := Nat.mod_lt (n / 2 ^ i) (show 2 > 0 by decide); unfold bcs; omega
def firmM (hold kind nl hv hits h : Int32) : Int32 :=
  if kind = 2 then (if (1 : Int32) ≤ (if bt hv h = 0 then hold + (if bt nl h = 0 then 0 else 4) else if (2 : Int32) ≤ hold + (if bt nl h = 0 then 0 else 4) then (hold + (if bt nl h = 0 then 0 else 4)) / 2 else 1) - hits then (if bt hv h = 0 then hold + (if bt nl h = 0 then 0 else 4) else if (2 : Int32) ≤ hold + (if bt nl h = 0 then 0 else 4) then (hold + (if bt nl h = 0 then 0 else 4)) / 2 else 1) - hits else 1) else (if bt hv h = 0 then hold + (if bt nl h = 0 then 0 else 4) else if (2 : Int32) ≤ hold + (if bt nl h = 0 then 0 else 4) then (hold + (if bt nl h = 0 then 0 else 4)) / 2 else 1)
theorem lt_le1 {x : Int32} : (if (1 : Int32) < x then x else 1) = if (1 : Int32) ≤ x then x else 1 := by
  by_cases h : (1 : Int32) < x
  · rw [if_pos h, if_pos (Int32.le_of_lt h)]
  · rw [if_neg h]
    by_cases h2 : (1 : Int32) ≤ x
    · rw [if_pos h2]; exact (Int32.le_antisymm (Int32.not_lt.mp h) h2).symm
    · rw [if_neg h2]
theorem firm_eq {hold kind nl hv hits h : Int32} {q : Nat} (hq : 1 ≤ q ∧ q ≤ 9) (e : hold = nI q) (hk : bt hv h = 0 ∨ kind = 3) : firmM hold kind nl hv hits h = firmP hold kind nl hv hits h := by
  have e4 : hold + (if bt nl h = 0 then 0 else 4) = hold + 4 * bt nl h := by
    rcases bt_one (x := nl) (y := h) with h1 | h1
    · rw [h1]; rfl
    · rw [h1]; rfl
  unfold firmM firmP
  rw [e4]
  obtain ⟨m, hm1, hm2, hm⟩ : ∃ m, 1 ≤ m ∧ m ≤ 13 ∧ hold + 4 * bt nl h = nI m := by
    rcases bt_one (x := nl) (y := h) with h1 | h1
    · rw [h1, e]; exact ⟨q + 4 * 0, by omega, by omega, ix_add rfl (ix_mul (a := 4) (b := 0) rfl rfl)⟩
    · rw [h1, e]; exact ⟨q + 4 * 1, by omega, by omega, ix_add rfl (ix_mul (a := 4) (b := 1) rfl rfl)⟩
  rw [hm]
  have one_le : ∀ m, 1 ≤ m → m ≤ 13 → (1 : Int32) ≤ nI m := fun m h1 h2 => nI_le (a := 1) h1 (by omega)
  rcases bt_one (x := hv) (y := h) with b0 | b1
  · have hn1 : ¬ bt hv h = 1 := by rw [b0]; decide
    simp only [if_pos b0, if_neg hn1]
    by_cases h2 : kind = 2
    · simp only [if_pos h2]; exact lt_le1.symm
    · simp only [if_neg h2]; rw [lt_le1, if_pos (one_le m hm1 hm2)]
  · have hn0 : ¬ bt hv h = 0 := by rw [b1]; decide
    have h2 : ¬ kind = 2 := by rw [hk.resolve_left hn0]; decide
    simp only [if_neg hn0, if_pos b1, if_neg h2]
    rw [lt_le1]
    by_cases h3 : 2 ≤ m
    · rw [if_pos (show (2 : Int32) ≤ nI m from nI_le (a := 2) h3 (by omega)), show (2 : Int32) = nI 2 from rfl, pk_div (by omega) (by decide) (by decide), if_pos (one_le _ (by omega) (by omega))]
    · rw [if_neg (show ¬ (2 : Int32) ≤ nI m from fun h => h3 ((nI_leI (a := 2) (by decide) (by omega)).mp h))]
      have : m = 1 := by omega
      subst this; decide
theorem hAt_8 {B : BV} (hw : wfB B) : hAt (B.2 1) 8 0 B.1.1 = -9 := by
  rcases hAt_or (B.2 1) 8 B.1.1 0 with h | ⟨j, -, hj, -, e⟩
  · exact h
  · obtain ⟨⟨p, hp, e2⟩, -⟩ := hw.2.1 j (by omega)
    have e3 : nI p = nI 8 := e2.symm.trans e
    rw [nI_eq (by omega) (by decide)] at e3
    omega
theorem hAt_at {B : BV} {h : Nat} (hw : wfB B) (hh : h < B.1.1) : hAt (B.2 1) (B.2 1 h) 0 B.1.1 = nI h := by
  have hw1 := hw.1
  rcases hAt_or (B.2 1) (B.2 1 h) B.1.1 0 with h1 | ⟨j, -, hj, h1, e⟩
  · exact absurd rfl (hAt_no _ _ h1 (by omega) h (Nat.zero_le _) (by omega))
  · rw [h1, hw.2.2.2.2 j h (by omega) hh e]
/-- only the page p, what fell, and the heap have changed -/
def frP (p : Nat) (F A F1 A1 : mmF) : Prop := (∀ r, r ≠ 123 → F1 r = F r) ∧ (∀ j, j ≠ 30 → F1 123 j = F 123 j) ∧ ∀ r, r ≠ p → r ≠ 140 → r ≠ 141 → A1 r = A r
theorem frP.refl (p : Nat) (F A : mmF) : frP p F A F A := ⟨fun _ _ => rfl, fun _ _ => rfl, fun _ _ _ _ => rfl⟩
theorem frP.trans {p : Nat} {F A F1 A1 F2 A2 : mmF} (h : frP p F A F1 A1) (h2 : frP p F1 A1 F2 A2) : frP p F A F2 A2 := ⟨fun r hr => (h2.1 r hr).trans (h.1 r hr), fun j hj => (h2.2.1 j hj).trans (h.2.1 j hj), fun r a b c => (h2.2.2 r a b c).trans (h.2.2 r a b c)⟩
theorem isM_c {F A F1 A1 : mmF} {f r : Nat} {B : BV} (hM : isM F A f r B) (h1 : F1 123 f = F 123 f ∧ F1 123 (f + 2) = F 123 (f + 2) ∧ F1 123 (f + 4) = F 123 (f + 4)) (h2 : A1 r = A r ∧ A1 (r + 1) = A (r + 1) ∧ A1 (r + 2) = A (r + 2)) : isM F1 A1 f r B := by
  unfold isM; rw [h1.1, h1.2.1, h1.2.2, h2.1, h2.2.1, h2.2.2]; exact hM
theorem frP.m {p : Nat} {F A F1 A1 : mmF} {B : BV} (h : frP p F A F1 A1) (hp : pg p) (hM : isM F A 4 125 B) : isM F1 A1 4 125 B :=
  isM_c hM ⟨h.2.1 4 (by decide), h.2.1 6 (by decide), h.2.1 8 (by decide)⟩ ⟨h.2.2 125 (by rcases hp with rfl | rfl | rfl <;> decide) (by decide) (by decide), h.2.2 126 (by rcases hp with rfl | rfl | rfl <;> decide) (by decide) (by decide), h.2.2 127 (by rcases hp with rfl | rfl | rfl <;> decide) (by decide) (by decide)⟩
theorem set_dn : ∀ n, n < 32 → ∀ h, h < 5 → ¬ bt (nI n) (nI h) = 0 → nI n &&& (((1 : Int32) <<< (nI h &&& 31)) ^^^ (-1)) = nI n ^^^ sh h := by decide +kernel
/-! the heap of the fall: (husk, next law), the top first -/
def stk (A : mmF) : List (Nat × Nat) → Prop
  | [] => True
  | q :: rest => A 140 rest.length = nI q.1 ∧ A 141 rest.length = nI q.2 ∧ stk A rest
theorem stk_c {A A1 : mmF} : ∀ (st : List (Nat × Nat)), (∀ i, i < st.length → A1 140 i = A 140 i ∧ A1 141 i = A 141 i) → stk A st → stk A1 st
  | [], _, _ => trivial
  | q :: rest, h, hs => ⟨(h rest.length (by simp)).1.trans hs.1, (h rest.length (by simp)).2.trans hs.2.1, stk_c rest (fun i hi => h i (by simp; omega)) hs.2.2⟩
def tp (st : List (Nat × Nat)) : Int32 := nI st.length - 1
theorem tp_c (q : Nat × Nat) (rest : List (Nat × Nat)) : tp (q :: rest) = nI rest.length := by unfold tp; rw [List.length_cons]; exact ix_sub (a := rest.length + 1) (b := 1) rfl rfl (by omega)
theorem tp_nil {st : List (Nat × Nat)} (hl : st.length ≤ 5) (h : tp st < 0) : st = [] := by
  cases st with
  | nil => rfl
  | cons q rest =>
    rw [tp_c] at h
    simp at hl
    exact absurd h (nI_pos (by omega))
theorem tp_cons {st : List (Nat × Nat)} (h : ¬ tp st < 0) : ∃ h k rest, st = (h, k) :: rest := by
  cases st with
  | nil => exact absurd (by decide) h
  | cons q rest => exact ⟨q.1, q.2, rest, rfl⟩
theorem tp_pop (q : Nat × Nat) (rest : List (Nat × Nat)) : tp (q :: rest) + Int32.ofInt (-1) = tp rest := by
  rw [tp_c]; unfold tp
  rw [Int32.sub_eq_add_neg]; rfl
theorem tp_push (a b q : Nat × Nat) (rest : List (Nat × Nat)) : tp (q :: rest) + Int32.ofInt 1 = tp (a :: b :: rest) := by
  rw [tp_c, tp_c]; exact nI_1 _
def stM (L : Nat) : List (Nat × Nat) → Nat
  | [] => 0
  | q :: rest => L - q.2 + 1 + stM L rest
/-- what the fall comes to, from a heap on -/
def unw (B : BV) : List (Nat × Nat) → SV × Int32 → SV × Int32
  | [], q => q
  | a :: rest, q => unw B rest ((List.range' a.2 (B.1.2.2 - a.2)).foldl (stepL B (fallP B (4 - rest.length)) a.1) q)
theorem unw_step {B : BV} {h k : Nat} {rest : List (Nat × Nat)} {q q' : SV × Int32} (hk : k < B.1.2.2) (hs : stepL B (fallP B (4 - rest.length)) h q k = q') : unw B ((h, k) :: rest) q = unw B ((h, k + 1) :: rest) q' := by
  show unw B rest _ = unw B rest _
  rw [stepL_go hk hs]
theorem unw_pop {B : BV} {h : Nat} {rest : List (Nat × Nat)} {q : SV × Int32} : unw B ((h, B.1.2.2) :: rest) q = unw B rest q := by
  show unw B rest _ = unw B rest _
  rw [Nat.sub_self]; rfl
theorem unw_push {B : BV} {h k j : Nat} {rest : List (Nat × Nat)} {S : SV} {f : Int32} (hk : k < B.1.2.2) (hl : rest.length < 4) (hj : jn B k = j) (h7 : B.2 7 k = nI h) (h9 : ¬ B.2 9 k = 1) (hu : bt (S.2.2 2) (nI j) = 0) (hf : bt f (nI j) = 0) : unw B ((h, k) :: rest) (S, f) = unw B ((j, 0) :: (h, k + 1) :: rest) ((S.1, S.2.1, va_up S.2.2 2 (S.2.2 2 ||| sh j)), f ||| sh j) := by
  rw [unw_step hk (q' := fallP B (4 - rest.length) S j f) (by unfold stepL; rw [if_pos h7, if_neg h9, hj]; dsimp only; rw [if_pos hu, if_pos hf])]
  rw [show 4 - rest.length = (4 - (rest.length + 1)) + 1 by omega]
  rfl
theorem bc_or : ∀ f, f < 32 → ∀ j, j < 5 → bt (nI f) (nI j) = 0 → bc (f ||| 2 ^ j) = bc f + 1 ∧ f ||| 2 ^ j < 32 ∧ nI f ||| sh j = nI (f ||| 2 ^ j) := by decide +kernel
