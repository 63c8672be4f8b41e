/-- only the roles lo .. hi have changed -/
def frI (lo hi : Nat) (F A F1 A1 : mmF) : Prop := ∀ r, r < lo ∨ hi < r → F1 r = F r ∧ A1 r = A r
theorem frI.refl (lo hi : Nat) (F A : mmF) : frI lo hi F A F A := fun _ _ => ⟨rfl, rfl⟩
theorem frI.trans {lo hi : Nat} {F A F1 A1 F2 A2 : mmF} (h : frI lo hi F A F1 A1) (h2 : frI lo hi F1 A1 F2 A2) : frI lo hi F A F2 A2 := fun r hr => ⟨(h2 r hr).1.trans (h r hr).1, (h2 r hr).2.trans (h r hr).2⟩
theorem frI.wide {lo hi lo' hi' : Nat} {F A F1 A1 : mmF} (h : frI lo hi F A F1 A1) (h1 : lo' ≤ lo) (h2 : hi ≤ hi') : frI lo' hi' F A F1 A1 := fun r hr => h r (by omega)
theorem fr.I {a lo hi : Nat} {F A F1 A1 : mmF} (h : fr a F A F1 A1) (h1 : lo ≤ a) (h2 : a + 2 ≤ hi) : frI lo hi F A F1 A1 := fun r hr => ⟨h.1 r (by omega), h.2 r (by omega) (by omega)⟩
theorem frI.s {lo hi c : Nat} {F A F1 A1 : mmF} {S : SV} (h : frI lo hi F A F1 A1) (hc : c + 2 < lo ∨ hi < c) (hS : isS F A c S) : isS F1 A1 c S := by
  unfold isS
  rw [(h c (by omega)).1, (h (c + 1) (by omega)).2, (h (c + 2) (by omega)).2]
  exact hS
theorem frI.b {lo hi b : Nat} {F A F1 A1 : mmF} {B : BV} (h : frI lo hi F A F1 A1) (hb : b + 9 < lo ∨ hi < b) (hB : isB F A b B) : isB F1 A1 b B := by
  unfold isB
  rw [(h b (by omega)).1, (h (b + 1) (by omega)).2, (h (b + 2) (by omega)).2, (h (b + 3) (by omega)).2, (h (b + 4) (by omega)).2, (h (b + 5) (by omega)).2, (h (b + 6) (by omega)).2, (h (b + 7) (by omega)).2, (h (b + 8) (by omega)).2, (h (b + 9) (by omega)).2]
  exact hB
/-- the first of f i, f (i + 1), .. (n of them) that isn't -9 -/
def scan (f : Nat → Int32) : Nat → Nat → Int32
  | _, 0 => -9
  | i, n + 1 => if f i = -9 then scan f (i + 1) n else f i
theorem scan_go {f : Nat → Int32} {i n : Nat} (hi : i < n) (h : f i = -9) : scan f i (n - i) = scan f (i + 1) (n - (i + 1)) := by
  rw [show n - i = n - (i + 1) + 1 by omega, scan, if_pos h]
theorem scan_at {f : Nat → Int32} {i n : Nat} (hi : i < n) (h : ¬ f i = -9) : scan f i (n - i) = f i := by
  rw [show n - i = n - (i + 1) + 1 by omega, scan, if_neg h]
theorem scan_end {f : Nat → Int32} {i n : Nat} (hi : n ≤ i) : scan f i (n - i) = -9 := by
  rw [show n - i = 0 by omega, scan]
/-- a row's step: thrower t at husk j, then 'rest' of the stand behind it; w: the row's weight -/
def rowS (B : BV) (S : SV) (w : Int32) (rest : SV → Int32) (t j : Nat) : Int32 :=
  if canB B S t j = 0 then -9 else if rest (strikeP B S t j).1 = -9 then -9 else (10 * (nI t + 1) + nI j + 1) * w + rest (strikeP B S t j).1
/-- the least row of m throws behind which the husk is down; -9: none -/
def rowP (B : BV) (hk : Nat) : Nat → SV → Int32
  | 0, S => if upP (S.2.2 2) (nI hk) = 0 then 0 else -9
  | m + 1, S => scan (fun t => scan (rowS B S (mm_hu m) (rowP B hk m) t) 0 B.1.1) 0 B.1.2.1
theorem scan_or {f : Nat → Int32} {p : Int32 → Prop} : ∀ n i, (∀ j, i ≤ j → j < i + n → f j = -9 ∨ p (f j)) → scan f i n = -9 ∨ p (scan f i n)
  | 0, i, _ => Or.inl rfl
  | n + 1, i, h => by
    unfold scan
    split
    · exact scan_or n (i + 1) (fun j h1 h2 => h j (by omega) (by omega))
    · rename_i hne
      rcases h i (Nat.le_refl _) (by omega) with h1 | h1
      · exact absurd h1 hne
      · exact Or.inr h1
theorem hu_nI {m : Nat} (h : m < 4) : mm_hu m = nI (100 ^ m) := by
  rcases (show m = 0 ∨ m = 1 ∨ m = 2 ∨ m = 3 by omega) with rfl | rfl | rfl | rfl <;> rfl
theorem rowS_or {B : BV} {S : SV} {m t j : Nat} {rest : SV → Int32} (hm : m < 4) (ht : t < 4) (hj : j < 5) (hr : ∀ S, rest S = -9 ∨ ∃ q, q < 100 ^ m ∧ rest S = nI q) : rowS B S (mm_hu m) rest t j = -9 ∨ ∃ q, q < 100 ^ (m + 1) ∧ rowS B S (mm_hu m) rest t j = nI q := by
  unfold rowS
  split
  · exact Or.inl rfl
  · split
    · exact Or.inl rfl
    · rename_i h
      rcases hr (strikeP B S t j).1 with h1 | ⟨q, hq, h1⟩
      · exact absurd h1 h
      · refine Or.inr ⟨(10 * (t + 1) + j + 1) * 100 ^ m + q, ?_, ?_⟩
        · rw [Nat.pow_succ]
          have : (10 * (t + 1) + j + 1) * 100 ^ m ≤ 45 * 100 ^ m := Nat.mul_le_mul_right _ (by omega)
          omega
        · rw [h1, hu_nI hm]
          exact ix_add (ix_mul (ix_add (ix_add (ix_mul (a := 10) rfl (nI_1 t)) rfl) rfl) rfl) rfl
theorem rowP_or {B : BV} {hk : Nat} (hw : wfB B) : ∀ m, m ≤ 4 → ∀ S, rowP B hk m S = -9 ∨ ∃ q, q < 100 ^ m ∧ rowP B hk m S = nI q
  | 0, _, S => by
    unfold rowP; split
    · exact Or.inr ⟨0, by decide, rfl⟩
    · exact Or.inl rfl
  | m + 1, hm, S => by
    have h1 := hw.1
    unfold rowP
    exact scan_or (p := fun v => ∃ q, q < 100 ^ (m + 1) ∧ v = nI q) _ _ (fun t _ ht => scan_or (p := fun v => ∃ q, q < 100 ^ (m + 1) ∧ v = nI q) _ _ (fun j _ hj => rowS_or (by omega) (by omega) (by omega) (rowP_or hw m (by omega))))
theorem rowS_val {B : BV} {S : SV} {m t j : Nat} {rest : SV → Int32} (hm : m < 4) (ht : t < 4) (hj : j < 5) (hr : ∀ S, rest S = -9 ∨ ∃ q, q < 100 ^ m ∧ rest S = nI q) (h1 : ¬ canB B S t j = 0) (h2 : ¬ rest (strikeP B S t j).1 = -9) : rowS B S (mm_hu m) rest t j = (10 * (nI t + 1) + nI j + 1) * mm_hu m + rest (strikeP B S t j).1 ∧ ¬ rowS B S (mm_hu m) rest t j = -9 := by
  have e : rowS B S (mm_hu m) rest t j = (10 * (nI t + 1) + nI j + 1) * mm_hu m + rest (strikeP B S t j).1 := by unfold rowS; rw [if_neg h1, if_neg h2]
  refine ⟨e, ?_⟩
  rcases hr (strikeP B S t j).1 with h9 | ⟨q, hq, h9⟩
  · exact absurd h9 h2
  · have h3 : (10 * (nI t + 1) + nI j + 1) * mm_hu m + rest (strikeP B S t j).1 = nI ((10 * (t + 1) + j + 1) * 100 ^ m + q) := by
      rw [h9, hu_nI hm]
      exact ix_add (ix_mul (ix_add (ix_add (ix_mul (a := 10) rfl (nI_1 t)) rfl) rfl) rfl) rfl
    rw [e, h3]
    have h100 : 100 ^ m ≤ 1000000 := by rcases (show m = 0 ∨ m = 1 ∨ m = 2 ∨ m = 3 by omega) with rfl | rfl | rfl | rfl <;> decide
    have h4 : (10 * (t + 1) + j + 1) * 100 ^ m ≤ 45 * 1000000 := Nat.mul_le_mul (by omega) h100
    exact nI_ne9 (by omega)
/-- what is down is a number of five bits -/
def dn (S : SV) : Prop := ∃ n, n < 32 ∧ S.2.2 2 = nI n
theorem sh_nI {h : Nat} (hh : h < 8) : sh h = nI (2 ^ h) := by
  have : ∀ h, h < 8 → sh h = nI (2 ^ h) := by decide +kernel
  exact this h hh
theorem dn_or {n h : Nat} (hn : n < 32) (hh : h < 5) : ∃ q, q < 32 ∧ nI n ||| sh h = nI q := by
  rw [sh_nI (by omega), show nI n ||| nI (2 ^ h) = nI (n ||| 2 ^ h) from by
    have : ∀ n, n < 32 → ∀ h, h < 5 → nI n ||| nI (2 ^ h) = nI (n ||| 2 ^ h) := by decide +kernel
    exact this n hn h hh]
  exact ⟨_, by
    have : ∀ n, n < 32 → ∀ h, h < 5 → n ||| 2 ^ h < 32 := by decide +kernel
    exact this n hn h hh, rfl⟩
theorem dn_xor {n h : Nat} (hn : n < 32) (hh : h < 5) : ∃ q, q < 32 ∧ nI n ^^^ sh h = nI q := by
  rw [sh_nI (by omega), show nI n ^^^ nI (2 ^ h) = nI (n ^^^ 2 ^ h) from by
    have : ∀ n, n < 32 → ∀ h, h < 5 → nI n ^^^ nI (2 ^ h) = nI (n ^^^ 2 ^ h) := by decide +kernel
    exact this n hn h hh]
  exact ⟨_, by
    have : ∀ n, n < 32 → ∀ h, h < 5 → n ^^^ 2 ^ h < 32 := by decide +kernel
    exact this n hn h hh, rfl⟩
theorem dn_set {S : SV} {h : Nat} (hd : dn S) (hh : h < 5) : dn (setS S h) := by
  obtain ⟨n, hn, e⟩ := hd
  unfold setS; split
  · exact ⟨n, hn, e⟩
  · obtain ⟨q, h1, h2⟩ := dn_xor hn hh
    exact ⟨q, h1, by simp only [va_up_self]; rw [e]; exact h2⟩
theorem foldl_inv {α β : Type} {p : β → Prop} {f : β → α → β} : ∀ (l : List α) (b : β), (∀ b a, a ∈ l → p b → p (f b a)) → p b → p (l.foldl f b)
  | [], b, _, h => h
  | a :: l, b, hf, h => foldl_inv l (f b a) (fun b a' ha => hf b a' (List.mem_cons_of_mem _ ha)) (hf b a List.mem_cons_self h)
theorem dn_fall {B : BV} (hw : wfB B) : ∀ n S h fl, h < 5 → dn S → dn (fallP B n S h fl).1
  | 0, S, h, fl, _, hd => hd
  | n + 1, S, h, fl, hh, hd => by
    have hw1 := hw.1
    unfold fallP
    refine foldl_inv (p := fun q : SV × Int32 => dn q.1) _ _ (fun q i hi hq => ?_) ?_
    · have hi2 : i < B.1.2.2 := by have := List.mem_range'.mp hi; omega
      have hj := (jn_ok hw hi2).2
      unfold stepL
      repeat' split
      · exact dn_set hq (by omega)
      · exact dn_fall hw n _ _ _ (by omega) hq
      · exact hq
      · exact hq
      · exact hq
    · obtain ⟨m, hm, e⟩ := hd
      obtain ⟨q, h1, h2⟩ := dn_or hm hh
      exact ⟨q, h1, by simp only [va_up_self]; rw [e]; exact h2⟩
theorem dn_strike {B : BV} {S : SV} {t h : Nat} (hw : wfB B) (hh : h < 5) (hd : dn S) : dn (strikeP B S t h).1 := by
  have h1 : dn (hitS B S t h) := hd
  unfold strikeP
  repeat' split
  · exact ⟨hd.choose, hd.choose_spec.1, by simp only [va_up]; exact hd.choose_spec.2⟩
  · exact dn_fall hw _ _ _ _ hh h1
  · exact dn_fall hw _ _ _ _ hh h1
  · exact h1
def weighP (x fg : Int32) (acc : Int32 × Int32) : Int32 × Int32 := if x ≤ acc.1 then acc else (x, fg)
/-- the match among the throwers 'am' (bits), from thrower t on (m more): the most that are down, and the first row of such -/
def matchP (B : BV) (am : Int32) : Nat → Nat → SV → Int32 → Int32 × Int32 → Int32 × Int32
  | 0, _, S, fg, acc => weighP (manyP (S.2.2 2)) fg acc
  | m + 1, t, S, fg, acc => if bt am (nI t) = 0 then matchP B am m (t + 1) S (10 * fg) acc else (List.range' 0 B.1.1).foldl (fun q h => if canB B S t h = 0 then q else matchP B am m (t + 1) (strikeP B S t h).1 (10 * fg + nI h + 1) q) (matchP B am m (t + 1) S (10 * fg) acc)
def orN (S : SV) (nl : Int32) : SV := (S.1, S.2.1, va_up S.2.2 4 (S.2.2 4 ||| nl))
def stayS (B : BV) (S : SV) (hk : Nat) (nl : Int32) (t j : Nat) : Int32 := if canB B S t j = 0 then -9 else if upP ((strikeP B (orN S nl) t j).1.2.2 2) (nI hk) = 0 then 0 else -9
/-- with these nails put in, is the husk up behind any one throw at a husk? -/
def stayP (B : BV) (S : SV) (hk : Nat) (nl : Int32) : Int32 := if scan (fun t => scan (stayS B S hk nl t) 0 B.1.1) 0 B.1.2.1 = -9 then 1 else 0
def freeP (B : BV) (S : SV) : Int32 := (((1 : Int32) <<< (nI B.1.1 &&& 31) - 1) &&& (S.2.2 2 ^^^ (-1))) &&& (S.2.2 4 ^^^ (-1))
def nailT (B : BV) (S : SV) (hk many n : Nat) : Int32 := if bc n = many then (if nI n &&& (freeP B S ^^^ (-1)) = 0 then (if stayP B S hk (nI n) = 0 then -9 else nI n) else -9) else -9
def nailsP (B : BV) (S : SV) (hk : Nat) : Int32 := scan (fun many => scan (nailT B S hk many) 0 (2 ^ B.1.1)) 0 (B.1.1 + 1)
/-- one told doing (w, h): the stand then, and whether it can be -/
def doP (B : BV) (S : SV) (w h : Nat) : SV × Int32 :=
  if w = 6 then (if h = 0 then (payS S, if S.2.2 6 < 9 then 1 else 0) else (S, 0))
  else if h < B.1.1 then (if w = 0 then (setS S h, if bt (S.2.2 2) (nI h) = 0 then 0 else 1) else if w = 5 then (nailS S h, if bt (S.2.2 2) (nI h) = 0 then 1 else 0)
    else if w - 1 < B.1.2.1 then (if S.2.2 6 = 0 then (S, 0) else if canB B S (w - 1) h = 0 then (S, 0) else ((strikeP B (S.1, S.2.1, va_up S.2.2 6 (S.2.2 6 - 1)) (w - 1) h).1, 1)) else (S, 0))
  else (S, 0)
def judP (B : BV) (row n : Nat) : Nat → Nat → SV → Int32
  | _, 0, _ => -9
  | i, m + 1, S => if (doP B S (row / 100 ^ (n - 1 - i) % 100 / 10) (row / 100 ^ (n - 1 - i) % 100 % 10)).2 = 0 then nI i else judP B row n (i + 1) m (doP B S (row / 100 ^ (n - 1 - i) % 100 / 10) (row / 100 ^ (n - 1 - i) % 100 % 10)).1
/-- only the roles lo .. 79, and the numbers of the seeker, have changed -/
def frK (lo : Nat) (F A F1 A1 : mmF) : Prop := ∀ r, r < lo ∨ 79 < r → (r ≠ 63 → F1 r = F r) ∧ A1 r = A r
theorem frK.refl (lo : Nat) (F A : mmF) : frK lo F A F A := fun _ _ => ⟨fun _ => rfl, rfl⟩
theorem frK.trans {lo : Nat} {F A F1 A1 F2 A2 : mmF} (h : frK lo F A F1 A1) (h2 : frK lo F1 A1 F2 A2) : frK lo F A F2 A2 := fun r hr => ⟨fun h63 => ((h2 r hr).1 h63).trans ((h r hr).1 h63), (h2 r hr).2.trans (h r hr).2⟩
theorem frK.wide {lo lo' : Nat} {F A F1 A1 : mmF} (h : frK lo F A F1 A1) (h1 : lo' ≤ lo) : frK lo' F A F1 A1 := fun r hr => h r (by omega)
theorem frI.k {lo : Nat} {F A F1 A1 : mmF} (h : frI lo 79 F A F1 A1) : frK lo F A F1 A1 := fun r hr => ⟨fun _ => (h r hr).1, (h r hr).2⟩
theorem frK.s {lo c : Nat} {F A F1 A1 : mmF} {S : SV} (h : frK lo F A F1 A1) (hc : c + 2 < lo ∨ 79 < c) (h63 : c ≠ 63) (hS : isS F A c S) : isS F1 A1 c S := by
  unfold isS
  rw [(h c (by omega)).1 h63, (h (c + 1) (by omega)).2, (h (c + 2) (by omega)).2]
  exact hS
theorem frK.b {lo b : Nat} {F A F1 A1 : mmF} {B : BV} (h : frK lo F A F1 A1) (hb : 79 < b) (hB : isB F A b B) : isB F1 A1 b B := by
  unfold isB
  rw [(h b (by omega)).1 (by omega), (h (b + 1) (by omega)).2, (h (b + 2) (by omega)).2, (h (b + 3) (by omega)).2, (h (b + 4) (by omega)).2, (h (b + 5) (by omega)).2, (h (b + 6) (by omega)).2, (h (b + 7) (by omega)).2, (h (b + 8) (by omega)).2, (h (b + 9) (by omega)).2]
  exact hB
