def pushA (a : List SV) (S : SV) : List SV := if a.length < 14 then a ++ [S] else a.tail ++ [S]
def remQ (Q : QV) : QV := (Q.1, qB Q, qS Q, pushA (qA Q) (qS Q), qE Q, qK Q, qG Q)
def stQ (Q : QV) (S : SV) : QV := (Q.1, qB Q, S, qA Q, qE Q, qK Q, qG Q)
theorem pushA_get {a : List SV} {S S' : SV} {i : Nat} (hl : a.length ≤ 14) (h : (pushA a S)[i]? = some S') : (a.length < 14 ∧ ((i < a.length ∧ a[i]? = some S') ∨ (i = a.length ∧ S' = S))) ∨ (a.length = 14 ∧ ((i < 13 ∧ a[i + 1]? = some S') ∨ (i = 13 ∧ S' = S))) := by
  unfold pushA at h
  split at h
  · rename_i hlt
    refine Or.inl ⟨hlt, ?_⟩
    by_cases hi : i < a.length
    · rw [List.getElem?_append_left hi] at h; exact Or.inl ⟨hi, h⟩
    · rw [List.getElem?_append_right (by omega)] at h
      have h1 := (List.getElem?_eq_some_iff.mp h).1
      have h2 : i - a.length = 0 := by simp at h1; omega
      rw [h2] at h; simp at h
      exact Or.inr ⟨by omega, h.symm⟩
  · rename_i hlt
    have hl14 : a.length = 14 := by omega
    refine Or.inr ⟨hl14, ?_⟩
    have ht : a.tail.length = 13 := by simp; omega
    by_cases hi : i < 13
    · rw [List.getElem?_append_left (by omega)] at h
      rw [List.getElem?_tail] at h
      exact Or.inl ⟨hi, h⟩
    · rw [List.getElem?_append_right (by omega)] at h
      have h1 := (List.getElem?_eq_some_iff.mp h).1
      have h2 : i - a.tail.length = 0 := by simp at h1; omega
      rw [h2] at h; simp at h
      exact Or.inr ⟨by omega, h.symm⟩
theorem pushA_len {a : List SV} {S : SV} (hl : a.length ≤ 14) : (pushA a S).length = if a.length < 14 then a.length + 1 else 14 := by
  unfold pushA; split
  · simp
  · simp; omega
/-- what Acts.remember leaves -/
def remP (F A : mmF) (fi cn : Nat) (S : SV) (F1 A1 : mmF) : Prop := isS F1 A1 (8 + 3 * ((fi + cn) % 14)) S ∧ F1 6 1 = nI (if cn < 14 then fi else (fi + 1) % 14) ∧ F1 6 2 = nI (if cn < 14 then cn + 1 else 14) ∧ (∀ r, r ≠ 6 → r ≠ 8 + 3 * ((fi + cn) % 14) → F1 r = F r) ∧ ∀ r, r ≠ 8 + 3 * ((fi + cn) % 14) + 1 → r ≠ 8 + 3 * ((fi + cn) % 14) + 2 → A1 r = A r
theorem remP.I {F A F1 A1 : mmF} {fi cn : Nat} {S : SV} (h : remP F A fi cn S F1 A1) : frI 6 49 F A F1 A1 := by
  have hm := Nat.mod_lt (fi + cn) (show 14 > 0 by decide)
  exact fun r hr => ⟨h.2.2.2.1 r (by omega) (by omega), h.2.2.2.2 r (by omega) (by omega)⟩
theorem RepX.st {F A F1 A1 : mmF} {R : mmR} {G : mmG} {Q : QV} {S : SV} (h : RepX F A R G Q) (hS : isS F1 A1 3 S) (hf : fr 3 F A F1 A1) : RepX F1 A1 R G (stQ Q S) ∧ frX F A R G F1 A1 R G := by
  obtain ⟨b, d, fi, hR, ⟨hRb, hRd, hb, hd, hbd⟩, ⟨hn, ht⟩, hB, hS0, ⟨ha1, ha2, hfi, hac⟩, ⟨he, hes⟩, hk, hg⟩ := h
  refine ⟨⟨b, d, fi, hR, ⟨hRb, hRd, hb, hd, hbd⟩, ⟨by rw [hf.1 1 (by decide)]; exact hn, by rw [hf.2 2 (by decide) (by decide)]; exact ht⟩, hf.b rfl hb hB, hS, ⟨by rw [hf.1 6 (by decide)]; exact ha1, by rw [hf.1 6 (by decide)]; exact ha2, hfi, fun i S hi => ?_⟩, ⟨by rw [hf.1 50 (by decide)]; exact he, by rw [hf.2 51 (by decide) (by decide), hf.2 52 (by decide) (by decide), hf.2 53 (by decide) (by decide)]; exact hes⟩, fun j hj => ⟨by rw [hf.2 62 (by decide) (by decide)]; exact (hk j hj).1, fun S hS => hf.s rfl (sl_K hj) (by omega) ((hk j hj).2 S hS)⟩, hg⟩, fun r hr => ⟨hf.1 r (by omega), hf.2 r (by omega) (by omega), rfl, rfl⟩⟩
  exact hf.s rfl (ac_K (Nat.mod_lt _ (by decide))) (by omega) (hac i S hi)
theorem RepX.rem {F A F1 A1 : mmF} {R : mmR} {G : mmG} {Q : QV} (h : RepX F A R G Q) (hl : (qA Q).length ≤ 14) (hp : ∀ fi, F 6 1 = nI fi → fi < 14 → remP F A fi (qA Q).length (qS Q) F1 A1) : RepX F1 A1 R G (remQ Q) ∧ frX F A R G F1 A1 R G := by
  obtain ⟨b, d, fi, hR, ⟨hRb, hRd, hb, hd, hbd⟩, ⟨hn, ht⟩, hB, hS0, ⟨ha1, ha2, hfi, hac⟩, ⟨he, hes⟩, hk, hg⟩ := h
  have hp := hp fi ha1 hfi
  have hf := hp.I
  have hb2 := bo_f hb
  refine ⟨⟨b, d, if (qA Q).length < 14 then fi else (fi + 1) % 14, hR, ⟨hRb, hRd, hb, hd, hbd⟩, ⟨by rw [(hf 1 (by decide)).1]; exact hn, by rw [(hf 2 (by decide)).2]; exact ht⟩, hf.b (by omega) hB, hf.s (by decide) hS0, ⟨hp.2.1, by rw [hp.2.2.1]; show _ = nI (pushA _ _).length; rw [pushA_len hl], by split <;> omega, fun i S hi => ?_⟩, ⟨by rw [(hf 50 (by decide)).1]; exact he, by rw [(hf 51 (by decide)).2, (hf 52 (by decide)).2, (hf 53 (by decide)).2]; exact hes⟩, fun j hj => ⟨by rw [(hf 62 (by decide)).2]; exact (hk j hj).1, fun S hS => hf.s (by omega) ((hk j hj).2 S hS)⟩, hg⟩, fun r hr => ⟨(hf r (by omega)).1, (hf r (by omega)).2, rfl, rfl⟩⟩
  rcases pushA_get hl hi with ⟨h1, h2 | ⟨h2, h3⟩⟩ | ⟨h1, h2 | ⟨h2, h3⟩⟩
  · rw [if_pos h1]
    have hne : (fi + i) % 14 ≠ (fi + (qA Q).length) % 14 := by omega
    exact isS_cong (hp.2.2.2.1 _ (by omega) (by omega)) (hp.2.2.2.2 _ (by omega) (by omega)) (hp.2.2.2.2 _ (by omega) (by omega)) (hac i S h2.2)
  · rw [if_pos h1, h2, h3]; exact hp.1
  · rw [if_neg (by omega), show ((fi + 1) % 14 + i) % 14 = (fi + (i + 1)) % 14 by omega]
    have hne : (fi + (i + 1)) % 14 ≠ (fi + (qA Q).length) % 14 := by omega
    exact isS_cong (hp.2.2.2.1 _ (by omega) (by omega)) (hp.2.2.2.2 _ (by omega) (by omega)) (hp.2.2.2.2 _ (by omega) (by omega)) (hac (i + 1) S h2.2)
  · rw [if_neg (by omega), h2, h3, show ((fi + 1) % 14 + 13) % 14 = (fi + (qA Q).length) % 14 by omega]; exact hp.1
theorem frX.trans {F A F1 A1 F2 A2 : mmF} {R R1 R2 : mmR} {G G1 G2 : mmG} (h : frX F A R G F1 A1 R1 G1) (h2 : frX F1 A1 R1 G1 F2 A2 R2 G2) : frX F A R G F2 A2 R2 G2 := fun r hr => ⟨(h2 r hr).1.trans (h r hr).1, (h2 r hr).2.1.trans (h r hr).2.1, (h2 r hr).2.2.1.trans (h r hr).2.2.1, (h2 r hr).2.2.2.trans (h r hr).2.2.2⟩
def decS (S : SV) : SV := (S.1, S.2.1, va_up S.2.2 6 (S.2.2 6 - 1))
def windS (S : SV) (x : Int32) : SV := (S.1, S.2.1, va_up S.2.2 5 x)
def wToss (Q : QV) (t pl lk : Int32) : QV × Int32 := if noTh Q t pl lk = -9 then (if (qS Q).2.2 6 = 0 then (Q, -3) else (stQ (remQ Q) (throwP (qB Q) (decS (qS Q)) t.toNatClampNeg pl lk).1, (throwP (qB Q) (decS (qS Q)) t.toNatClampNeg pl lk).2)) else (Q, noTh Q t pl lk)
def wSet (Q : QV) (h : Int32) : QV × Int32 := if isIn h (nI (qB Q).1.1) = 0 then (Q, -1) else if bt ((qS Q).2.2 2) h = 0 then (Q, -3) else (stQ (remQ Q) (setS (qS Q) h.toNatClampNeg), firmB (qB Q) (setS (qS Q) h.toNatClampNeg) h.toNatClampNeg)
def wNail (Q : QV) (h : Int32) : QV × Int32 := if isIn h (nI (qB Q).1.1) = 0 then (Q, -1) else if bt ((qS Q).2.2 2) h = 0 then (stQ (remQ Q) (nailS (qS Q) h.toNatClampNeg), firmB (qB Q) (nailS (qS Q) h.toNatClampNeg) h.toNatClampNeg) else (Q, -3)
def wPay (Q : QV) : QV × Int32 := if (qS Q).2.2 6 < 9 then (stQ (remQ Q) (payS (qS Q)), (payS (qS Q)).2.2 6) else (Q, -3)
def wBlow (Q : QV) (x : Int32) : QV × Int32 := if x < 0 then (Q, -2) else if x ≤ 2 then (if x = (qS Q).2.2 5 then (Q, -3) else (stQ (remQ Q) (windS (qS Q) x), (qS Q).2.2 5)) else (Q, -2)
