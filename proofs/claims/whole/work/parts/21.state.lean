/-! THE WHOLE STATE: text (its length, its bytes), booth, stand, acts (the first one first), sightings, slots, seed -/
abbrev QV : Type := (Nat × (Nat → Int32)) × BV × SV × List SV × (Nat × (Nat → Nat → Int32)) × (Nat → Option SV) × Int64
abbrev qB (Q : QV) : BV := Q.2.1
abbrev qS (Q : QV) : SV := Q.2.2.1
abbrev qA (Q : QV) : List SV := Q.2.2.2.1
abbrev qE (Q : QV) : Nat × (Nat → Nat → Int32) := Q.2.2.2.2.1
abbrev qK (Q : QV) : Nat → Option SV := Q.2.2.2.2.2.1
abbrev qG (Q : QV) : Int64 := Q.2.2.2.2.2.2
/-- what a stand's value keeps to, in a booth -/
def wfS (B : BV) (S : SV) : Prop := dn S ∧ (∃ n, n ≤ 9 ∧ S.2.2 6 = nI n) ∧ (∃ n, n < 3 ∧ S.2.2 5 = nI n) ∧ ∀ h, h < B.1.1 → bt (S.2.2 3) (nI h) = 0 ∨ B.2 3 h = 3
def wfQ (Q : QV) : Prop := Q.1.1 ≤ 60 ∧ wfB (qB Q) ∧ wfS (qB Q) (qS Q) ∧ ((qA Q).length ≤ 14 ∧ ∀ S ∈ qA Q, wfS (qB Q) S) ∧ (qE Q).1 ≤ 6 ∧ ∀ j S, qK Q j = some S → wfS (qB Q) S
def RepX (F A : mmF) (R : mmR) (G : mmG) (Q : QV) : Prop := ∃ b d fi, mm_RL R ∧ (R 0 8 = some b ∧ R 0 9 = some d ∧ mm_K b = 1 ∧ mm_K d = 1 ∧ b ≠ d) ∧ (F 1 1 = nI Q.1.1 ∧ ∀ i, i < Q.1.1 → A 2 i = Q.1.2 i) ∧ isB F A b (qB Q) ∧ isS F A 3 (qS Q) ∧ (F 6 1 = nI fi ∧ F 6 2 = nI (qA Q).length ∧ fi < 14 ∧ ∀ i S, (qA Q)[i]? = some S → isS F A (8 + 3 * ((fi + i) % 14)) S) ∧ (F 50 3 = nI (qE Q).1 ∧ ∀ i, i < (qE Q).1 → A 51 i = (qE Q).2 0 i ∧ A 52 i = (qE Q).2 1 i ∧ A 53 i = (qE Q).2 2 i) ∧ (∀ j, j < 2 → A 62 j = (if (qK Q j).isSome then 1 else 0) ∧ ∀ S, qK Q j = some S → isS F A (56 + 3 * j) S) ∧ G 0 = qG Q
/-- the model's roles are as they were -/
def frX (F A : mmF) (R : mmR) (G : mmG) (F1 A1 : mmF) (R1 : mmR) (G1 : mmG) : Prop := ∀ r, 123 ≤ r → F1 r = F r ∧ A1 r = A r ∧ R1 r = R r ∧ G1 r = G r
theorem frX.refl (F A : mmF) (R : mmR) (G : mmG) : frX F A R G F A R G := fun _ _ => ⟨rfl, rfl, rfl, rfl⟩
theorem isS_cong {F A F1 A1 : mmF} {a : Nat} {S : SV} (h0 : F1 a = F a) (h1 : A1 (a + 1) = A (a + 1)) (h2 : A1 (a + 2) = A (a + 2)) (hS : isS F A a S) : isS F1 A1 a S := by
  unfold isS; rw [h0, h1, h2]; exact hS
theorem isB_cong {F A F1 A1 : mmF} {b : Nat} {B : BV} (h0 : F1 b = F b) (h1 : ∀ j, 1 ≤ j → j ≤ 9 → A1 (b + j) = A (b + j)) (hB : isB F A b B) : isB F1 A1 b B := by
  unfold isB; rw [h0, h1 1 (by decide) (by decide), h1 2 (by decide) (by decide), h1 3 (by decide) (by decide), h1 4 (by decide) (by decide), h1 5 (by decide) (by decide), h1 6 (by decide) (by decide), h1 7 (by decide) (by decide), h1 8 (by decide) (by decide), h1 9 (by decide) (by decide)]; exact hB
/-- the scratch roles don't matter -/
theorem RepX.scr {F A F1 A1 : mmF} {R : mmR} {G : mmG} {Q : QV} (h : RepX F A R G Q) (hf : frI 63 102 F A F1 A1) : RepX F1 A1 R G Q ∧ frX F A R G F1 A1 R G := by
  obtain ⟨b, d, fi, hR, ⟨hRb, hRd, hb, hd, hbd⟩, ⟨hn, ht⟩, hB, hS, ⟨ha1, ha2, hfi, hac⟩, ⟨he, hes⟩, hk, hg⟩ := h
  have hb2 : 103 ≤ b := by rcases bo_f hb with rfl | rfl <;> decide
  refine ⟨⟨b, d, fi, hR, ⟨hRb, hRd, hb, hd, hbd⟩, ⟨by rw [(hf 1 (by decide)).1]; exact hn, by rw [(hf 2 (by decide)).2]; exact ht⟩, hf.b (by omega) hB, hf.s (by decide) hS, ⟨by rw [(hf 6 (by decide)).1]; exact ha1, by rw [(hf 6 (by decide)).1]; exact ha2, hfi, fun i S hi => hf.s (by have := Nat.mod_lt (fi + i) (show 14 > 0 by decide); omega) (hac i S hi)⟩, ⟨by rw [(hf 50 (by decide)).1]; exact he, by rw [(hf 51 (by decide)).2, (hf 52 (by decide)).2, (hf 53 (by decide)).2]; exact hes⟩, fun j hj => ⟨by rw [(hf 62 (by decide)).2]; exact (hk j hj).1, fun S hS => hf.s (by omega) ((hk j hj).2 S hS)⟩, hg⟩, fun r hr => ⟨(hf r (by omega)).1, (hf r (by omega)).2, rfl, rfl⟩⟩
theorem RepX.dr {F A F1 A1 : mmF} {R : mmR} {G : mmG} {Q : QV} {d : Nat} (h : RepX F A R G Q) (hRd : R 0 9 = some d) (hf : frB d F A F1 A1) : RepX F1 A1 R G Q ∧ frX F A R G F1 A1 R G := by
  obtain ⟨b, d', fi, hR, ⟨hRb, hRd', hb, hd, hbd⟩, ⟨hn, ht⟩, hB, hS, ⟨ha1, ha2, hfi, hac⟩, ⟨he, hes⟩, hk, hg⟩ := h
  have e : d' = d := Option.some.inj (hRd'.symm.trans hRd)
  subst e
  have hb2 := bo_f hb
  have hd2 := bo_f hd
  have hl : ∀ r, r < 103 → F1 r = F r ∧ A1 r = A r := fun r hr => ⟨hf.1 r (by omega), hf.2 r (by omega)⟩
  refine ⟨⟨b, d', fi, hR, ⟨hRb, hRd', hb, hd, hbd⟩, ⟨by rw [(hl 1 (by decide)).1]; exact hn, by rw [(hl 2 (by decide)).2]; exact ht⟩, isB_cong (hf.1 b hbd) (fun j h1 h2 => hf.2 (b + j) (by omega)) hB, isS_cong (hl 3 (by decide)).1 (hl 4 (by decide)).2 (hl 5 (by decide)).2 hS, ⟨by rw [(hl 6 (by decide)).1]; exact ha1, by rw [(hl 6 (by decide)).1]; exact ha2, hfi, fun i S hi => ?_⟩, ⟨by rw [(hl 50 (by decide)).1]; exact he, by rw [(hl 51 (by decide)).2, (hl 52 (by decide)).2, (hl 53 (by decide)).2]; exact hes⟩, fun j hj => ⟨by rw [(hl 62 (by decide)).2]; exact (hk j hj).1, fun S hS => isS_cong (hl _ (by omega)).1 (hl _ (by omega)).2 (hl _ (by omega)).2 ((hk j hj).2 S hS)⟩, hg⟩, fun r hr => ⟨hf.1 r (by omega), hf.2 r (by omega), rfl, rfl⟩⟩
  have hm := Nat.mod_lt (fi + i) (show 14 > 0 by decide)
  exact isS_cong (hl _ (by omega)).1 (hl _ (by omega)).2 (hl _ (by omega)).2 (hac i S hi)
theorem sw_cases (x : Int32) (n : Nat) (hn : n < 1000) : (x.toInt < 0 ∨ (n : Int) < x.toInt) ∨ ∃ j, j ≤ n ∧ x = nI j := by
  rcases pk_ix x (n := n + 1) (by omega) with h | h | ⟨j, hj, rfl⟩
  · exact Or.inl (Or.inl (by rw [Int32.lt_iff_toInt_lt] at h; exact h))
  · refine Or.inl (Or.inr ?_)
    rw [Int32.le_iff_toInt_le, nI_toInt (by omega)] at h
    omega
  · exact Or.inr ⟨j, by omega, rfl⟩
theorem sw_ne {x : Int32} {n : Nat} (h : x.toInt < 0 ∨ (n : Int) < x.toInt) (hn : n < 1000) (j : Nat) (hj : j ≤ n) : ¬ x = nI j := by
  intro e; subst e
  rw [nI_toInt (by omega)] at h
  omega
/-! the answers and what comes of them -/
def wWrite (Q : QV) (x : Int32) : QV × Int32 := if x < 0 then (Q, -2) else if (255 : Int32) < x then (Q, -2) else if Q.1.1 < 60 then (((Q.1.1 + 1, va_up Q.1.2 Q.1.1 x), Q.2), nI (Q.1.1 + 1)) else (Q, -4)
def wWipe (Q : QV) : QV × Int32 := (((0, Q.1.2), Q.2), nI Q.1.1)
def wFault (Q : QV) : Int32 := (readP Q.1.2 Q.1.1).2
def wFair (Q : QV) : QV × Int32 := if (readP Q.1.2 Q.1.1).2 = -9 then ((Q.1, (readP Q.1.2 Q.1.1).1, newS (readP Q.1.2 Q.1.1).1 (figP Q.1.2 Q.1.1 1 0 2) (figP Q.1.2 Q.1.1 2 0 9), [], qE Q, fun _ => none, qG Q), 100 * nI (readP Q.1.2 Q.1.1).1.1.1 + 10 * nI (readP Q.1.2 Q.1.1).1.1.2.1 + nI (readP Q.1.2 Q.1.1).1.1.2.2) else (Q, -3)
def wAbout (Q : QV) (x : Int32) : Int32 := if x = nI 0 then nI (qB Q).1.1 else if x = nI 1 then nI (qB Q).1.2.1 else if x = nI 2 then nI (qB Q).1.2.2 else if x = nI 3 then (qS Q).2.2 5 else if x = nI 4 then (qS Q).2.2 6 else if x = nI 5 then (qS Q).2.2 2 else if x = nI 6 then nI (qA Q).length else if x = nI 7 then nI (qE Q).1 else if x = nI 8 then nI Q.1.1 else -2
def wHuskN (Q : QV) (h : Nat) (x : Int32) : Int32 := if x = nI 0 then (qB Q).2 1 h else if x = nI 1 then (qB Q).2 2 h else if x = nI 2 then (qB Q).2 3 h else if x = nI 3 then firmB (qB Q) (qS Q) h else if x = nI 4 then (qS Q).1 h else if x = nI 5 then (qS Q).2.1 h else if x = nI 6 then bt ((qS Q).2.2 3) (nI h) else if x = nI 7 then bt ((qS Q).2.2 4) (nI h) else if x = nI 8 then bt ((qS Q).2.2 2) (nI h) else -2
def wHusk (Q : QV) (h x : Int32) : Int32 := if isIn h (nI (qB Q).1.1) = 0 then -1 else wHuskN Q h.toNatClampNeg x
def wThrN (Q : QV) (t : Nat) (x : Int32) : Int32 := if x = nI 0 then (qB Q).2 4 t else if x = nI 1 then (qB Q).2 5 t else if x = nI 2 then (qB Q).2 6 t else if x = nI 3 then forceP ((qB Q).2 5 t) ((qB Q).2 6 t) else -2
def wThr (Q : QV) (t x : Int32) : Int32 := if isIn t (nI (qB Q).1.2.1) = 0 then -1 else wThrN Q t.toNatClampNeg x
/-- the refusal of a throw; -9: none -/
def noTh (Q : QV) (t pl lk : Int32) : Int32 := if isIn t (nI (qB Q).1.2.1) = 0 then -1 else if isIn pl 8 = 0 then -2 else if lk < 0 then -2 else if (2 : Int32) < lk then -2 else -9
def wLands (Q : QV) (t pl lk : Int32) : Int32 := if noTh Q t pl lk = -9 then landP ((qB Q).2 4 t.toNatClampNeg) ((qB Q).2 6 t.toNatClampNeg) pl lk ((qS Q).2.2 5) else noTh Q t pl lk
theorem isIn_nat {h : Int32} {n : Nat} (hn : n < 2 ^ 31) (h0 : ¬ isIn h (nI n) = 0) : ∃ j, j < n ∧ h = nI j := by
  unfold isIn at h0
  split at h0
  · exact absurd rfl h0
  · split at h0
    · exact absurd rfl h0
    · rename_i h1 h2
      obtain ⟨j, hj, rfl⟩ := nI_of h1
      rw [nI_leI hn hj] at h2
      exact ⟨j, by omega, rfl⟩
