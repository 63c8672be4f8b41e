/-! THE SYSTEM'S WORDS: a stand's value S (loose, hits, and its numbers by slot: 2 down, 3 halved, 4 nailed, 5 wind, 6 paid), a booth's value B (how many husks, throwers, laws; its rows 1 .. 9). -/
abbrev SV : Type := (Nat → Int32) × (Nat → Int32) × (Nat → Int32)
abbrev BV : Type := (Nat × Nat × Nat) × (Nat → Nat → Int32)
def isS (F A : mmF) (a : Nat) (S : SV) : Prop := (∀ j, j < 5 → A (a + 1) j = S.1 j) ∧ (∀ j, j < 5 → A (a + 2) j = S.2.1 j) ∧ F a 2 = S.2.2 2 ∧ F a 3 = S.2.2 3 ∧ F a 4 = S.2.2 4 ∧ F a 5 = S.2.2 5 ∧ F a 6 = S.2.2 6
def isB (F A : mmF) (b : Nat) (B : BV) : Prop := (F b 9 = nI B.1.1 ∧ F b 10 = nI B.1.2.1 ∧ F b 11 = nI B.1.2.2) ∧ (∀ h, h < B.1.1 → A (b + 1) h = B.2 1 h ∧ A (b + 2) h = B.2 2 h ∧ A (b + 3) h = B.2 3 h) ∧ (∀ t, t < B.1.2.1 → A (b + 4) t = B.2 4 t ∧ A (b + 5) t = B.2 5 t ∧ A (b + 6) t = B.2 6 t) ∧ ∀ i, i < B.1.2.2 → A (b + 7) i = B.2 7 i ∧ A (b + 8) i = B.2 8 i ∧ A (b + 9) i = B.2 9 i
def wfB (B : BV) : Prop := (B.1.1 ≤ 5 ∧ B.1.2.1 ≤ 4 ∧ B.1.2.2 ≤ 4) ∧ (∀ h, h < B.1.1 → (∃ p, p < 8 ∧ B.2 1 h = nI p) ∧ (∃ q, 1 ≤ q ∧ q ≤ 9 ∧ B.2 2 h = nI q) ∧ ∃ c, c < 4 ∧ B.2 3 h = nI c) ∧ (∀ t, t < B.1.2.1 → (∃ p, p < 4 ∧ B.2 4 t = nI p) ∧ (∃ q, 1 ≤ q ∧ q ≤ 9 ∧ B.2 5 t = nI q) ∧ ∃ c, c < 4 ∧ B.2 6 t = nI c) ∧ (∀ i, i < B.1.2.2 → (∃ p, p < B.1.1 ∧ B.2 7 i = nI p) ∧ (∃ q, q < B.1.1 ∧ B.2 8 i = nI q) ∧ ∃ c, c < 2 ∧ B.2 9 i = nI c) ∧ ∀ h h', h < B.1.1 → h' < B.1.1 → B.2 1 h = B.2 1 h' → h = h'
/-- only the stand at a has changed -/
def fr (a : Nat) (F A F1 A1 : mmF) : Prop := (∀ r, r ≠ a → F1 r = F r) ∧ ∀ r, r ≠ a + 1 → r ≠ a + 2 → A1 r = A r
theorem fr.refl (a : Nat) (F A : mmF) : fr a F A F A := ⟨fun _ _ => rfl, fun _ _ _ => rfl⟩
theorem fr.trans {a : Nat} {F A F1 A1 F2 A2 : mmF} (h : fr a F A F1 A1) (h2 : fr a F1 A1 F2 A2) : fr a F A F2 A2 := ⟨fun r hr => (h2.1 r hr).trans (h.1 r hr), fun r hr hr2 => (h2.2 r hr hr2).trans (h.2 r hr hr2)⟩
theorem fr.b {a b : Nat} {F A F1 A1 : mmF} {B : BV} (h : fr a F A F1 A1) (ha : mm_K a = 7) (hb : mm_K b = 1) (hB : isB F A b B) : isB F1 A1 b B := by
  have h1 := st_f ha
  have h2 : 103 ≤ b := by rcases bo_f hb with rfl | rfl <;> decide
  have hF : F1 b = F b := h.1 b (by omega)
  have hA : ∀ j, A1 (b + j) = A (b + j) := fun j => h.2 (b + j) (by omega) (by omega)
  unfold isB
  rw [hF, hA 1, hA 2, hA 3, hA 4, hA 5, hA 6, hA 7, hA 8, hA 9]
  exact hB
theorem fr.s {a c : Nat} {F A F1 A1 : mmF} {S : SV} (h : fr a F A F1 A1) (ha : mm_K a = 7) (hc : mm_K c = 7) (hn : c ≠ a) (hS : isS F A c S) : isS F1 A1 c S := by
  have h1 := st_two ha hc
  unfold isS
  rw [h.1 c hn, h.2 (c + 1) (by omega) (by omega), h.2 (c + 2) (by omega) (by omega)]
  exact hS
def sh (h : Nat) : Int32 := (1 : Int32) <<< (nI h &&& 31)
def jn (B : BV) (i : Nat) : Nat := (B.2 8 i).toNatClampNeg
def firmB (B : BV) (S : SV) (h : Nat) : Int32 := firmP (B.2 2 h) (B.2 3 h) (S.2.2 4) (S.2.2 3) (S.2.1 h) (nI h)
def setS (S : SV) (h : Nat) : SV := if bt (S.2.2 2) (nI h) = 0 then S else (va_up S.1 h 0, S.2.1, va_up S.2.2 2 (S.2.2 2 ^^^ sh h))
def nailS (S : SV) (h : Nat) : SV := if bt (S.2.2 2) (nI h) = 0 then (S.1, S.2.1, va_up S.2.2 4 (S.2.2 4 ^^^ sh h)) else S
def payS (S : SV) : SV := if S.2.2 6 < 9 then (S.1, S.2.1, va_up S.2.2 6 (if S.2.2 6 + 3 < 9 then S.2.2 6 + 3 else 9)) else S
/-- one law gone through: by which husk h fell; q: the stand, and what fell by this throw -/
def stepL (B : BV) (rec : SV → Nat → Int32 → SV × Int32) (h : Nat) (q : SV × Int32) (i : Nat) : SV × Int32 :=
  if B.2 7 i = nI h then (if B.2 9 i = 1 then (setS q.1 (jn B i), q.2) else if bt (q.1.2.2 2) (nI (jn B i)) = 0 then (if bt q.2 (nI (jn B i)) = 0 then rec q.1 (jn B i) q.2 else q) else q) else q
def fallP (B : BV) : Nat → SV → Nat → Int32 → SV × Int32
  | 0, S, _, fl => (S, fl)
  | n + 1, S, h, fl => (List.range' 0 B.1.2.2).foldl (stepL B (fallP B n) h) ((S.1, S.2.1, va_up S.2.2 2 (S.2.2 2 ||| sh h)), fl ||| sh h)
def hitS (B : BV) (S : SV) (t h : Nat) : SV := (va_up S.1 h (S.1 h + forceP (B.2 5 t) (B.2 6 t)), va_up S.2.1 h (S.2.1 h + 1), S.2.2)
def strikeP (B : BV) (S : SV) (t h : Nat) : SV × Int32 :=
  if firmB B (hitS B S t h) h ≤ (hitS B S t h).1 h then (if B.2 3 h = 3 then (if bt (S.2.2 3) (nI h) = 0 then ((va_up (hitS B S t h).1 h 0, (hitS B S t h).2.1, va_up S.2.2 3 (S.2.2 3 ||| sh h)), 0) else fallP B 5 (hitS B S t h) h 0) else fallP B 5 (hitS B S t h) h 0) else (hitS B S t h, 0)
/-- the first husk from i on, of n more, whose place is pl -/
def hAt (row : Nat → Int32) (pl : Int32) : Nat → Nat → Int32
  | _, 0 => -9
  | i, n + 1 => if row i = pl then nI i else hAt row pl (i + 1) n
def canB (B : BV) (S : SV) (t h : Nat) : Int32 := if bt (S.2.2 2) (nI h) = 0 then (if reachP (B.2 1 h) (B.2 6 t) (S.2.2 5) = 0 then 0 else 1) else 0
/-- the husk where a throw lands -/
def landH (B : BV) (S : SV) (t : Nat) (pl lk : Int32) : Int32 := hAt (B.2 1) (landP (B.2 4 t) (B.2 6 t) pl lk (S.2.2 5)) 0 B.1.1
def throwP (B : BV) (S : SV) (t : Nat) (pl lk : Int32) : SV × Int32 :=
  if landH B S t pl lk = -9 then (S, 0) else if bt (S.2.2 2) (landH B S t pl lk) = 0 then strikeP B S t (landH B S t pl lk).toNatClampNeg else (S, 0)
theorem hAt_or (row : Nat → Int32) (pl : Int32) : ∀ n i, hAt row pl i n = -9 ∨ ∃ j, i ≤ j ∧ j < i + n ∧ hAt row pl i n = nI j ∧ row j = pl
  | 0, i => Or.inl rfl
  | n + 1, i => by
    unfold hAt
    split
    · exact Or.inr ⟨i, Nat.le_refl _, by omega, rfl, by assumption⟩
    · rcases hAt_or row pl n (i + 1) with h | ⟨j, h1, h2, h3, h4⟩
      · exact Or.inl h
      · exact Or.inr ⟨j, by omega, by omega, h3, h4⟩
theorem bt_one {x y : Int32} : bt x y = 0 ∨ bt x y = 1 := by
  obtain ⟨j, h1, h2⟩ := pk_andE (x >>> (y &&& 31)) (m := 1) 1 rfl
  unfold bt
  rw [h2]
  rcases (show j = 0 ∨ j = 1 by omega) with rfl | rfl
  · exact Or.inl rfl
  · exact Or.inr rfl
theorem upP_eq {d h : Int32} : upP d h = 0 ↔ ¬ bt d h = 0 := by unfold upP; split <;> simp_all
theorem jn_ok {B : BV} {i : Nat} (hw : wfB B) (hi : i < B.1.2.2) : B.2 8 i = nI (jn B i) ∧ jn B i < B.1.1 := by
  obtain ⟨-, ⟨q, h1, h2⟩, -⟩ := hw.2.2.2.1 i hi
  have h3 := hw.1
  unfold jn
  rw [h2, nI_clamp (by omega)]
  exact ⟨rfl, h1⟩
theorem stepL_go {B : BV} {rec : SV → Nat → Int32 → SV × Int32} {h i n : Nat} {q q' : SV × Int32} (hi : i < n) (hs : stepL B rec h q i = q') : (List.range' i (n - i)).foldl (stepL B rec h) q = (List.range' (i + 1) (n - (i + 1))).foldl (stepL B rec h) q' := by
  rw [show n - i = n - (i + 1) + 1 by omega, List.range'_succ, List.foldl_cons, hs]
theorem nI_ne9 {j : Nat} (h : j < 2 ^ 31) : ¬ nI j = -9 := by
  intro e
  have h1 : (nI j).toInt = (-9 : Int32).toInt := by rw [e]
  rw [nI_toInt h] at h1
  have h2 : (-9 : Int32).toInt = -9 := by decide
  omega
theorem throwP_off {B : BV} {S : SV} {t : Nat} {pl lk : Int32} (h : landH B S t pl lk = -9) : throwP B S t pl lk = (S, 0) := by unfold throwP; rw [if_pos h]
theorem throwP_at {B : BV} {S : SV} {t j : Nat} {pl lk : Int32} (h : landH B S t pl lk = nI j) (hj : j < 2 ^ 31) : throwP B S t pl lk = if bt (S.2.2 2) (nI j) = 0 then strikeP B S t j else (S, 0) := by
  unfold throwP
  rw [h, if_neg (nI_ne9 hj), nI_clamp hj]
