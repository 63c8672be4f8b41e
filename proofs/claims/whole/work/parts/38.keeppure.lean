/-! what the acts keep -/
theorem fall_j {B : BV} {j : Nat} (hj : j ≠ 2) : ∀ n S h fl, (fallP B n S h fl).1.2.2 j = S.2.2 j
  | 0, S, h, fl => rfl
  | n + 1, S, h, fl => by
    unfold fallP
    refine foldl_inv (p := fun q : SV × Int32 => q.1.2.2 j = S.2.2 j) _ _ (fun q i _ hq => ?_) (va_up_ne _ _ hj)
    unfold stepL
    repeat' split
    · unfold setS; split
      · exact hq
      · exact (va_up_ne _ _ hj).trans hq
    · exact (fall_j hj n _ _ _).trans hq
    · exact hq
    · exact hq
    · exact hq
theorem strike_j {B : BV} {S : SV} {t h j : Nat} (hj : j ≠ 2) (hj3 : j ≠ 3) : (strikeP B S t h).1.2.2 j = S.2.2 j := by
  unfold strikeP
  repeat' split
  · exact va_up_ne _ _ hj3
  · exact fall_j hj _ _ _ _
  · exact fall_j hj _ _ _ _
  · rfl
theorem bt_or {x y k : Int32} : bt (x ||| y) k = bt x k ||| bt y k := by
  unfold bt
  rw [Int32.shiftRight_or]
  exact Int32.toBitVec_inj.mp (by simp only [Int32.toBitVec_or, Int32.toBitVec_and]; exact BitVec.and_or_distrib_right)
theorem bt_shj : ∀ h, h < 5 → ∀ j, j < 5 → j ≠ h → bt (sh h) (nI j) = 0 := by decide +kernel
theorem strike_3 {B : BV} {S : SV} {t h : Nat} (hh : h < 5) (h5 : B.1.1 ≤ 5) (hk : ∀ j, j < B.1.1 → bt (S.2.2 3) (nI j) = 0 ∨ B.2 3 j = 3) : ∀ j, j < B.1.1 → bt ((strikeP B S t h).1.2.2 3) (nI j) = 0 ∨ B.2 3 j = 3 := by
  intro j hj
  unfold strikeP
  repeat' split
  · rename_i h3 _
    by_cases e : j = h
    · rw [e]; exact Or.inr h3
    · show bt (va_up S.2.2 3 (S.2.2 3 ||| sh h) 3) (nI j) = 0 ∨ _
      rw [va_up_self]
      rcases hk j hj with h1 | h1
      · left; rw [bt_or, h1, bt_shj h hh j (by omega) e]; decide
      · exact Or.inr h1
  · rw [fall_j (by decide)]; exact hk j hj
  · rw [fall_j (by decide)]; exact hk j hj
  · exact hk j hj
theorem throw_cases {B : BV} {S : SV} {t : Nat} {pl lk : Int32} (hw : wfB B) : (throwP B S t pl lk).1 = S ∨ ∃ h, h < B.1.1 ∧ (throwP B S t pl lk).1 = (strikeP B S t h).1 := by
  have hw1 := hw.1
  rcases hAt_or (B.2 1) (landP (B.2 4 t) (B.2 6 t) pl lk (S.2.2 5)) B.1.1 0 with h | ⟨j, -, hj, h, -⟩
  · rw [throwP_off h]; exact Or.inl rfl
  · rw [throwP_at (j := j) h (by omega)]; split
    · exact Or.inr ⟨j, by omega, rfl⟩
    · exact Or.inl rfl
theorem throw_3 {B : BV} {S : SV} {t : Nat} {pl lk : Int32} (hw : wfB B) (hk : ∀ j, j < B.1.1 → bt (S.2.2 3) (nI j) = 0 ∨ B.2 3 j = 3) : ∀ j, j < B.1.1 → bt ((throwP B S t pl lk).1.2.2 3) (nI j) = 0 ∨ B.2 3 j = 3 := by
  have hw1 := hw.1
  rcases throw_cases (S := S) (t := t) (pl := pl) (lk := lk) hw with e | ⟨h, hh, e⟩
  · rw [e]; exact hk
  · rw [e]; exact strike_3 (by omega) hw1.1 hk
theorem throw_j {B : BV} {S : SV} {t j : Nat} {pl lk : Int32} (hw : wfB B) (hj : j ≠ 2) (hj3 : j ≠ 3) : (throwP B S t pl lk).1.2.2 j = S.2.2 j := by
  rcases throw_cases (S := S) (t := t) (pl := pl) (lk := lk) hw with e | ⟨h, hh, e⟩
  · rw [e]
  · rw [e]; exact strike_j hj hj3
theorem draw_3 {B : BV} {S : SV} {x : Nat} (hw : wfB B) (hk : ∀ j, j < B.1.1 → bt (S.2.2 3) (nI j) = 0 ∨ B.2 3 j = 3) : ∀ j, j < B.1.1 → bt ((drawP B S x).2.2 3) (nI j) = 0 ∨ B.2 3 j = 3 := by
  unfold drawP; split
  · exact throw_3 hw hk
  · exact hk
theorem wfS_throw {B : BV} {S : SV} {t : Nat} {pl lk : Int32} (hw : wfB B) (h : wfS B S) : wfS B (throwP B S t pl lk).1 :=
  ⟨dn_throw hw h.1, by rw [throw_j hw (by decide) (by decide)]; exact h.2.1, by rw [throw_j hw (by decide) (by decide)]; exact h.2.2.1, throw_3 hw h.2.2.2⟩
theorem wfS_dec {B : BV} {S : SV} (h : wfS B S) (h0 : ¬ S.2.2 6 = 0) : wfS B (decS S) := by
  obtain ⟨n, hn, e⟩ := h.2.1
  have hn0 : n ≠ 0 := fun z => h0 (by rw [e, z]; rfl)
  exact ⟨h.1, ⟨n - 1, by omega, by show va_up S.2.2 6 (S.2.2 6 - 1) 6 = _; rw [va_up_self, e]; exact ix_sub (b := 1) rfl rfl (by omega)⟩, h.2.2.1, h.2.2.2⟩
theorem wfS_set {B : BV} {S : SV} {k : Nat} (hk : k < 5) (h : wfS B S) : wfS B (setS S k) := by
  refine ⟨dn_set h.1 hk, ?_, ?_, ?_⟩
  · rw [show (setS S k).2.2 6 = S.2.2 6 from by unfold setS; split <;> simp [va_up]]; exact h.2.1
  · rw [show (setS S k).2.2 5 = S.2.2 5 from by unfold setS; split <;> simp [va_up]]; exact h.2.2.1
  · rw [setS_3]; exact h.2.2.2
theorem wfS_nail {B : BV} {S : SV} {k : Nat} (h : wfS B S) : wfS B (nailS S k) := by
  have e : ∀ j, j ≠ 4 → (nailS S k).2.2 j = S.2.2 j := fun j hj => by unfold nailS; split <;> simp [va_up, hj]
  refine ⟨?_, ?_, ?_, ?_⟩
  · unfold dn; rw [e 2 (by decide)]; exact h.1
  · rw [e 6 (by decide)]; exact h.2.1
  · rw [e 5 (by decide)]; exact h.2.2.1
  · rw [e 3 (by decide)]; exact h.2.2.2
theorem wfS_pay {B : BV} {S : SV} (h : wfS B S) : wfS B (payS S) := by
  unfold payS; split
  · rename_i h9
    refine ⟨h.1, ?_, h.2.2.1, h.2.2.2⟩
    obtain ⟨n, hn, e⟩ := h.2.1
    show ∃ n, n ≤ 9 ∧ va_up S.2.2 6 (if S.2.2 6 + 3 < 9 then S.2.2 6 + 3 else 9) 6 = nI n
    rw [va_up_self, e]
    split
    · rename_i hlt
      have h3 : nI n + 3 = nI (n + 3) := nI_add n 3
      rw [h3] at hlt ⊢
      exact ⟨n + 3, by have := (nI_ltI (b := 9) (by omega) (by decide)).mp hlt; omega, rfl⟩
    · exact ⟨9, by omega, rfl⟩
  · exact h
theorem wfS_wind {B : BV} {S : SV} {n : Nat} (hn : n < 3) (h : wfS B S) : wfS B (windS S (nI n)) := ⟨h.1, h.2.1, ⟨n, hn, by show va_up S.2.2 5 (nI n) 5 = _; rw [va_up_self]⟩, h.2.2.2⟩
theorem wfS_new {B : BV} {w p : Nat} (hw : w < 3) (hp : p ≤ 9) : wfS B (newS B (nI w) (nI p)) := ⟨⟨0, by decide, rfl⟩, ⟨p, hp, rfl⟩, ⟨w, hw, rfl⟩, fun h _ => Or.inl (by show bt 0 (nI h) = 0; unfold bt; rw [Int32.zero_shiftRight, Int32.zero_and])⟩
