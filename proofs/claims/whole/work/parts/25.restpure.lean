/-! the rest of the class's answers -/
def pL (Pi : Int64 → mmF → mmF → mmR → mmG → Prop) : mmP := fun v F1 A1 R1 G1 => ∃ r, v = some (.long r) ∧ Pi r F1 A1 R1 G1
theorem pL_ok {Pi : Int64 → mmF → mmF → mmR → mmG → Prop} {F A : mmF} {R : mmR} {G : mmG} {v : Int64} (h : Pi v F A R G) : pL Pi (some (.long v)) F A R G := ⟨v, rfl, h⟩
def wUndo (Q : QV) : QV × Int32 := if (qA Q).length = 0 then (Q, -3) else ((Q.1, qB Q, (qA Q)[(qA Q).length - 1]?.getD (qS Q), (qA Q).dropLast, qE Q, qK Q, qG Q), nI ((qA Q).length - 1))
def wFelled (Q : QV) (t pl lk : Int32) : Int32 := if noTh Q t pl lk = -9 then (throwP (qB Q) (qS Q) t.toNatClampNeg pl lk).1.2.2 2 else noTh Q t pl lk
/-- the fewest throws, or their row, from i throws on (m more) -/
def fewP (B : BV) (S : SV) (h : Nat) (row : Int32) : Nat → Nat → Int32
  | _, 0 => -9
  | i, m + 1 => if rowP B h i S = -9 then fewP B S h row (i + 1) m else if row = 0 then nI i else rowP B h i S
def wFewest (Q : QV) (h row : Int32) : Int32 := if isIn h (nI (qB Q).1.1) = 0 then -1 else fewP (qB Q) (qS Q) h.toNatClampNeg row 0 4
def windP (B : BV) (t h : Nat) : Int32 := (List.range' 0 3).foldl (fun q w => if reachP (B.2 1 h) (B.2 6 t) (nI w) = 0 then q else q ||| sh w) 0
def wWinds (Q : QV) (t h : Int32) : Int32 := if isIn t (nI (qB Q).1.2.1) = 0 then -1 else if isIn h (nI (qB Q).1.1) = 0 then -1 else if bt ((qS Q).2.2 2) h = 0 then windP (qB Q) t.toNatClampNeg h.toNatClampNeg else 0
def mtP (B : BV) (S : SV) (am : Int32) : Int32 × Int32 := matchP B am B.1.2.1 0 S 1 (-9, 1)
def wMatch (Q : QV) (row : Int32) : Int32 := if row = 0 then (mtP (qB Q) (qS Q) (sh (qB Q).1.2.1 - 1)).1 else (mtP (qB Q) (qS Q) (sh (qB Q).1.2.1 - 1)).2
def wNails (Q : QV) (h : Int32) : Int32 := if isIn h (nI (qB Q).1.1) = 0 then -1 else if bt ((qS Q).2.2 2) h = 0 then nailsP (qB Q) (qS Q) h.toNatClampNeg else -9
def wJudge (Q : QV) (n row : Int32) : Int32 := if n < 1 then -2 else if (4 : Int32) < n then -2 else if row < 0 then -2 else if row < mm_hu n.toNatClampNeg then judP (qB Q) row.toNatClampNeg n.toNatClampNeg 0 n.toNatClampNeg (qS Q) else -2
/-- a fraction in its least terms -/
def frcP (a b : Int32) (u : Int32) : Int32 := nI ((if u = 0 then b.toNatClampNeg else a.toNatClampNeg) / Nat.gcd a.toNatClampNeg b.toNatClampNeg)
def shrS (B : BV) (S : SV) (t : Nat) (q : Int32) (o : Nat) : Int32 := if bt (nI o) (nI t) = 0 then q + ((mtP B S (nI o ||| sh t)).1 - (mtP B S (nI o)).1) * mm_or (bc o) * mm_or (B.1.2.1 - bc o - 1) else q
def shrP (B : BV) (S : SV) (t : Nat) : Int32 := (List.range' 0 (2 ^ B.1.2.1)).foldl (shrS B S t) 0
def wShare (Q : QV) (t u : Int32) : Int32 := if isIn t (nI (qB Q).1.2.1) = 0 then -1 else frcP (shrP (qB Q) (qS Q) t.toNatClampNeg) (mm_or (qB Q).1.2.1) u
def wSee (Q : QV) (h f x : Int32) : QV × Int32 := if isIn h (nI (qB Q).1.1) = 0 then (Q, -1) else if f < 1 then (Q, -2) else if (11 : Int32) < f then (Q, -2) else if x < 0 then (Q, -2) else if x ≤ 1 then (if (qE Q).1 < 6 then ((Q.1, qB Q, qS Q, qA Q, ((qE Q).1 + 1, u2 (u2 (u2 (qE Q).2 0 (qE Q).1 h) 1 (qE Q).1 f) 2 (qE Q).1 x), qK Q, qG Q), nI ((qE Q).1 + 1)) else (Q, -4)) else (Q, -2)
def wUnsee (Q : QV) : QV × Int32 := ((Q.1, qB Q, qS Q, qA Q, (0, (qE Q).2), qK Q, qG Q), nI (qE Q).1)
def wHolds (Q : QV) (h : Int32) : Int32 := if isIn h (nI (qB Q).1.1) = 0 then -1 else hoP (qE Q).2 (qE Q).1 h (4 * bt ((qS Q).2.2 4) h)
def wRests (Q : QV) (x : Int32) : Int32 := if (qB Q).1.2.1 < 2 then -1 else if x < 0 then -2 else if x ≤ 1 then (if x = 0 then (restsP (qB Q) (qS Q)).1 else (restsP (qB Q) (qS Q)).2) else -2
def wOdds (Q : QV) (t pl n h x u : Int32) : Int32 := if isIn t (nI (qB Q).1.2.1) = 0 then -1 else if isIn h (nI (qB Q).1.1) = 0 then -1 else if isIn pl 8 = 0 then -2 else if n < 1 then -2 else if (4 : Int32) < n then -2 else if x < 0 then -2 else if x ≤ 10 then frcP (wayP (qB Q) t.toNatClampNeg pl x h.toNatClampNeg n.toNatClampNeg (qS Q)) (nI (20 ^ n.toNatClampNeg)) u else -2
def wSeed (Q : QV) (v : Int64) : QV × Int64 := ((Q.1, qB Q, qS Q, qA Q, qE Q, qK Q, v), qG Q)
theorem nextG_ex (g : Int64) : ∃ z : Int64, z = g * 6364136223846793005 + 1442695040888963407 := ⟨_, rfl⟩
noncomputable def nextG (g : Int64) : Int64 := Classical.choose (nextG_ex g)
theorem nextG_eq (g : Int64) : nextG g = g * 6364136223846793005 + 1442695040888963407 := Classical.choose_spec (nextG_ex g)
def drawG (g : Int64) : Int64 := (g.toUInt64 >>> ((33 : Int32).toInt64.toUInt64 &&& Int64.toUInt64 63)).toInt64
def drwn (g : Int64) : Int32 := (drawG g - drawG g / 96 * 96).toInt32
theorem drawG_eq (g : Int64) : drawG g = lN (g.toBitVec.toNat / 2 ^ 33) := by
  unfold drawG
  have e : ((33 : Int32).toInt64.toUInt64 &&& Int64.toUInt64 63) = UInt64.ofNat 33 := by decide
  rw [e]
  apply Int64.toBitVec_inj.mp
  apply BitVec.eq_of_toNat_eq
  show (g.toUInt64 >>> UInt64.ofNat 33).toNat = (BitVec.ofNat 64 _).toNat
  have h1 : (UInt64.ofNat 33).toNat = 33 := by decide
  have h2 : g.toUInt64.toNat = g.toBitVec.toNat := rfl
  have h3 := g.toBitVec.isLt
  rw [UInt64.toNat_shiftRight, h1, h2, Nat.shiftRight_eq_div_pow, BitVec.toNat_ofNat, Nat.mod_eq_of_lt (Nat.lt_of_le_of_lt (Nat.div_le_self _ _) h3)]
theorem drwn_ok (g : Int64) : ∃ n, n < 96 ∧ drwn g = nI n := by
  have h3 := g.toBitVec.isLt
  refine ⟨g.toBitVec.toNat / 2 ^ 33 % 96, Nat.mod_lt _ (by decide), ?_⟩
  unfold drwn
  rw [drawG_eq, show (96 : Int64) = lN 96 from rfl, pk_lRem (by omega) (by decide) (by decide), lN_i]
/-- what is drawn, as a number -/
noncomputable def drwN (g : Int64) : Nat := Classical.choose (drwn_ok g)
theorem drwN_ok (g : Int64) : drwN g < 96 ∧ drwn g = nI (drwN g) := Classical.choose_spec (drwn_ok g)
/-- one throw drawn: seed, stand, how many were down together -/
noncomputable def stF (B : BV) (q : Int64 × SV × Int32) : Int64 × SV × Int32 := (nextG q.1, drawP B q.2.1 (drwN (nextG q.1)), q.2.2 + manyP ((drawP B q.2.1 (drwN (nextG q.1))).2.2 2))
noncomputable def fairsP (B : BV) : Nat → Int64 × SV × Int32 → Int64 × SV × Int32
  | 0, q => q
  | m + 1, q => fairsP B m (stF B q)
theorem fairsP_0 (B : BV) (q : Int64 × SV × Int32) : fairsP B 0 q = q := rfl
theorem fairsP_s (B : BV) (m : Nat) (q : Int64 × SV × Int32) : fairsP B (m + 1) q = fairsP B m (stF B q) := rfl
theorem stF_eq {B : BV} {g g2 : Int64} {T : SV} {q : Int32} {dd : Nat} (h1 : g2 = nextG g) (h2 : dd = drwN (nextG g)) : stF B (g, T, q) = (g2, drawP B T dd, q + manyP ((drawP B T dd).2.2 2)) := by
  rw [h2, h1]; rfl
noncomputable def wFairs (Q : QV) (m : Int32) : QV × Int32 := if m < 1 then (Q, -2) else if m ≤ 30 then ((Q.1, qB Q, qS Q, qA Q, qE Q, qK Q, (fairsP (qB Q) m.toNatClampNeg (qG Q, qS Q, 0)).1), (fairsP (qB Q) m.toNatClampNeg (qG Q, qS Q, 0)).2.2) else (Q, -2)
def wKeep (Q : QV) (x : Int32) : QV × Int32 := if x < 0 then (Q, -1) else if x < 2 then ((Q.1, qB Q, qS Q, qA Q, qE Q, va_up (qK Q) x.toNatClampNeg (some (qS Q)), qG Q), manyP ((qS Q).2.2 2)) else (Q, -1)
def wAgain (Q : QV) (x : Int32) : QV × Int32 := if x < 0 then (Q, -1) else if x < 2 then (if (qK Q x.toNatClampNeg).isSome then ((Q.1, qB Q, (qK Q x.toNatClampNeg).getD (qS Q), [], qE Q, qK Q, qG Q), manyP (((qK Q x.toNatClampNeg).getD (qS Q)).2.2 2)) else (Q, -3)) else (Q, -1)
theorem wKeep_no {Q : QV} {x : Int32} (hx : x < 0 ∨ 2 ≤ x) : wKeep Q x = (Q, -1) := by
  unfold wKeep
  rcases hx with h | h
  · rw [if_pos h]
  · rw [if_neg (fun h2 => absurd h (Int32.not_le.mpr (Int32.lt_trans h2 (by decide)))), if_neg (Int32.not_lt.mpr h)]
theorem gcd_step {x y : Nat} : Nat.gcd x y = Nat.gcd y (x % y) := by
  rw [Nat.gcd_comm x y, Nat.gcd_rec, Nat.gcd_comm]
theorem gcd_half {x y : Nat} (h : y < x) (h0 : 0 < y) : 2 * (x % y) ≤ x := by
  have h1 := Nat.mod_lt x h0
  have h2 := Nat.div_add_mod x y
  have h3 : 1 ≤ x / y := Nat.div_pos (Nat.le_of_lt h) h0
  have h4 : y * 1 ≤ y * (x / y) := Nat.mul_le_mul_left _ h3
  omega
/-- Euclid's steps: behind step i -/
def eucP (a b i x y : Nat) : Prop := Nat.gcd x y = Nat.gcd a b ∧ ((i = 0 ∧ x = a ∧ y = b) ∨ (y < x ∧ x * y * 2 ^ i ≤ 2 ^ 40))
theorem eucP_go {a b i x y : Nat} (hab : a * b ≤ 2 ^ 39) (h : eucP a b i x y) (hy : 0 < y) : eucP a b (i + 1) y (x % y) := by
  obtain ⟨h1, h2⟩ := h
  refine ⟨gcd_step.symm.trans h1, Or.inr ⟨Nat.mod_lt _ hy, ?_⟩⟩
  rcases h2 with ⟨rfl, rfl, rfl⟩ | ⟨h2, h3⟩
  · have h4 : y * (x % y) ≤ y * x := Nat.mul_le_mul_left _ (Nat.mod_le _ _)
    rw [Nat.mul_comm x y] at hab
    have : y * (x % y) * 2 ^ (0 + 1) ≤ 2 ^ 39 * 2 ^ (0 + 1) := Nat.mul_le_mul_right _ (Nat.le_trans h4 hab)
    exact this
  · refine Nat.le_trans ?_ h3
    rw [Nat.pow_succ, Nat.mul_comm (2 ^ i) 2, ← Nat.mul_assoc]
    refine Nat.mul_le_mul_right _ ?_
    have h4 := Nat.mul_le_mul_left y (gcd_half h2 hy)
    rw [Nat.mul_comm x y, Nat.mul_assoc, Nat.mul_comm (x % y) 2]
    exact h4
theorem eucP_end {a b x y : Nat} (h : eucP a b 64 x y) : y = 0 := by
  rcases h.2 with ⟨h1, -, -⟩ | ⟨h2, h3⟩
  · exact absurd h1 (by decide)
  · rcases Nat.eq_zero_or_pos y with h0 | h0
    · exact h0
    · have h4 : 1 * 1 ≤ x * y := Nat.mul_le_mul (by omega) h0
      have h5 := Nat.mul_le_mul_right (2 ^ 64) h4
      omega
theorem frc_nI {a b : Nat} {u : Int32} (ha : a < 2 ^ 31) (hb : b < 2 ^ 31) : frcP (nI a) (nI b) u = nI ((if u = 0 then b else a) / Nat.gcd a b) := by
  unfold frcP; rw [nI_clamp ha, nI_clamp hb]
/-! the match: it grows with its throwers, and lies in 0 .. 5 -/
theorem weigh_1 (x fg : Int32) (q : Int32 × Int32) : (weighP x fg q).1 = if x ≤ q.1 then q.1 else x := by unfold weighP; split <;> rfl
theorem weigh_ge (x fg : Int32) (q : Int32 × Int32) : q.1 ≤ (weighP x fg q).1 := by
  rw [weigh_1]; split
  · exact Int32.le_refl _
  · rename_i h; exact Int32.le_of_lt (Int32.not_le.mp h)
theorem match_ge (B : BV) (am : Int32) : ∀ m t S fg (q : Int32 × Int32), q.1 ≤ (matchP B am m t S fg q).1
  | 0, t, S, fg, q => weigh_ge _ _ _
  | m + 1, t, S, fg, q => by
    unfold matchP
    split
    · exact match_ge B am m _ _ _ _
    · refine foldl_inv (p := fun q' : Int32 × Int32 => q.1 ≤ q'.1) _ _ (fun q' h _ hq => ?_) (match_ge B am m _ _ _ _)
      split
      · exact hq
      · exact Int32.le_trans hq (match_ge B am m _ _ _ _)
theorem foldl_inv2 {α β γ : Type} {p : β → γ → Prop} {f : β → α → β} {g : γ → α → γ} : ∀ (l : List α) (b : β) (c : γ), (∀ b c a, a ∈ l → p b c → p (f b a) (g c a)) → p b c → p (l.foldl f b) (l.foldl g c)
  | [], b, c, _, h => h
  | a :: l, b, c, hf, h => foldl_inv2 l (f b a) (g c a) (fun b c a' ha => hf b c a' (List.mem_cons_of_mem _ ha)) (hf b c a List.mem_cons_self h)
theorem foldl_ge {α : Type} {f : Int32 × Int32 → α → Int32 × Int32} (hf : ∀ q a, q.1 ≤ (f q a).1) (l : List α) (q : Int32 × Int32) : q.1 ≤ (l.foldl f q).1 :=
  foldl_inv (p := fun q' : Int32 × Int32 => q.1 ≤ q'.1) l q (fun q' a _ h => Int32.le_trans h (hf q' a)) (Int32.le_refl _)
theorem match_mono {B : BV} {am am' : Int32} : ∀ m t S fg fg' (q q' : Int32 × Int32), (∀ i, t ≤ i → i < t + m → bt am (nI i) = 0 → bt am' (nI i) = 0) → q'.1 ≤ q.1 → (matchP B am' m t S fg' q').1 ≤ (matchP B am m t S fg q).1
  | 0, t, S, fg, fg', q, q', _, h => by
    unfold matchP
    rw [weigh_1, weigh_1]
    split
    · split
      · exact h
      · rename_i h2; exact Int32.le_trans h (Int32.le_of_lt (Int32.not_le.mp h2))
    · split
      · assumption
      · exact Int32.le_refl _
  | m + 1, t, S, fg, fg', q, q', hs, h => by
    have ih := fun (S : SV) (fg fg' : Int32) (q q' : Int32 × Int32) (h : q'.1 ≤ q.1) => match_mono (B := B) (am := am) (am' := am') m (t + 1) S fg fg' q q' (fun i h1 h2 => hs i (by omega) (by omega)) h
    have h0 := hs t (Nat.le_refl _) (by omega)
    unfold matchP
    by_cases h1 : bt am (nI t) = 0
    · rw [if_pos h1, if_pos (h0 h1)]; exact ih _ _ _ _ _ h
    · rw [if_neg h1]
      by_cases h2 : bt am' (nI t) = 0
      · rw [if_pos h2]
        refine Int32.le_trans (ih S (10 * fg) (10 * fg') q q' h) (foldl_ge (fun q a => ?_) _ _)
        split
        · exact Int32.le_refl _
        · exact match_ge _ _ _ _ _ _ _
      · rw [if_neg h2]
        refine foldl_inv2 (p := fun (c b : Int32 × Int32) => c.1 ≤ b.1) _ _ _ (fun c b a _ hcb => ?_) (ih _ _ _ _ _ h)
        split
        · exact hcb
        · exact ih _ _ _ _ _ hcb
theorem many_nI {S : SV} (hd : dn S) : ∃ n, n ≤ 5 ∧ manyP (S.2.2 2) = nI n := by
  obtain ⟨n, hn, e⟩ := hd
  exact ⟨bc n, bc_le n, by rw [e, manyP_nI hn]⟩
theorem match_le {B : BV} {am : Int32} (hw : wfB B) : ∀ m t S fg (q : Int32 × Int32), dn S → q.1 ≤ 5 → (matchP B am m t S fg q).1 ≤ 5
  | 0, t, S, fg, q, hd, h => by
    unfold matchP; rw [weigh_1]; split
    · exact h
    · obtain ⟨n, hn, e⟩ := many_nI hd
      rw [e]; exact nI_le (b := 5) hn (by decide)
  | m + 1, t, S, fg, q, hd, h => by
    have hw1 := hw.1
    unfold matchP; split
    · exact match_le hw m _ _ _ _ hd h
    · refine foldl_inv (p := fun q' : Int32 × Int32 => q'.1 ≤ 5) _ _ (fun q' a ha hq => ?_) (match_le hw m _ _ _ _ hd h)
      have := List.mem_range'.mp ha
      split
      · exact hq
      · exact match_le hw m _ _ _ _ (dn_strike hw (by omega) hd) hq
theorem match_nn {B : BV} {am : Int32} : ∀ m t S fg (q : Int32 × Int32), dn S → 0 ≤ (matchP B am m t S fg q).1
  | 0, t, S, fg, q, hd => by
    unfold matchP; rw [weigh_1]
    obtain ⟨n, hn, e⟩ := many_nI hd
    have h0 : (0 : Int32) ≤ nI n := nI_pos' (by omega)
    rw [e]
    split
    · exact Int32.le_trans h0 (by assumption)
    · exact h0
  | m + 1, t, S, fg, q, hd => by
    unfold matchP; split
    · exact match_nn m _ _ _ _ hd
    · refine Int32.le_trans (match_nn (B := B) (am := am) m (t + 1) S (10 * fg) q hd) (foldl_ge (fun q a => ?_) _ _)
      split
      · exact Int32.le_refl _
      · exact match_ge _ _ _ _ _ _ _
theorem mt_nI {B : BV} {S : SV} (hw : wfB B) (hd : dn S) (am : Int32) : ∃ n, n ≤ 5 ∧ (mtP B S am).1 = nI n := by
  have h1 := match_nn (B := B) (am := am) B.1.2.1 0 S 1 (-9, 1) hd
  have h2 := match_le (B := B) (am := am) hw B.1.2.1 0 S 1 (-9, 1) hd (by decide)
  exact nI_of2 (n := 5) rfl (Int32.not_lt.mpr h1) h2
theorem bc_sub : ∀ T, T ≤ 4 → ∀ t, t < T → ∀ o, o < 2 ^ T → bt (nI o) (nI t) = 0 → bc o + 1 ≤ T := by decide +kernel
theorem bt_sub : ∀ o, o < 16 → ∀ t, t < 4 → ∀ i, i < 4 → bt (nI o ||| sh t) (nI i) = 0 → bt (nI o) (nI i) = 0 := by decide +kernel
theorem or_nI {m : Nat} (h : m < 5) : ∃ n, n ≤ 24 ∧ mm_or m = nI n := by
  rcases (show m = 0 ∨ m = 1 ∨ m = 2 ∨ m = 3 ∨ m = 4 by omega) with rfl | rfl | rfl | rfl | rfl
  · exact ⟨1, by decide, rfl⟩
  · exact ⟨1, by decide, rfl⟩
  · exact ⟨2, by decide, rfl⟩
  · exact ⟨6, by decide, rfl⟩
  · exact ⟨24, by decide, rfl⟩
theorem shrS_nI {B : BV} {S : SV} {t o n : Nat} (hw : wfB B) (hd : dn S) (ht : t < B.1.2.1) (ho : o < 2 ^ B.1.2.1) : ∃ n', n' ≤ n + 2880 ∧ shrS B S t (nI n) o = nI n' := by
  have hw1 := hw.1
  have ho16 : o < 16 := Nat.lt_of_lt_of_le ho (Nat.pow_le_pow_right (by decide) hw1.2.1 : 2 ^ B.1.2.1 ≤ 2 ^ 4)
  unfold shrS; split
  · rename_i h0
    have hb := bc_sub B.1.2.1 hw1.2.1 t ht o ho h0
    obtain ⟨a1, h1, e1⟩ := mt_nI hw hd (nI o ||| sh t)
    obtain ⟨a0, h2, e2⟩ := mt_nI hw hd (nI o)
    have hm : (mtP B S (nI o)).1 ≤ (mtP B S (nI o ||| sh t)).1 := match_mono _ _ _ _ _ _ _ (fun i _ hi hz => bt_sub o ho16 t (by omega) i (by omega) hz) (Int32.le_refl _)
    rw [e1, e2, nI_leI (by omega) (by omega)] at hm
    obtain ⟨x, hx, ex⟩ := or_nI (m := bc o) (by omega)
    obtain ⟨y, hy, ey⟩ := or_nI (m := B.1.2.1 - bc o - 1) (by omega)
    rw [e1, e2, ex, ey, pk_sub hm, pk_mul, pk_mul, nI_add]
    refine ⟨_, ?_, rfl⟩
    have h3 : (a1 - a0) * x ≤ 5 * 24 := Nat.mul_le_mul (by omega) hx
    have h4 := Nat.mul_le_mul h3 hy
    omega
  · exact ⟨n, by omega, rfl⟩
theorem shrF_nI {B : BV} {S : SV} {t : Nat} (hw : wfB B) (hd : dn S) (ht : t < B.1.2.1) : ∀ m i n, i + m ≤ 2 ^ B.1.2.1 → ∃ n', n' ≤ n + 2880 * m ∧ (List.range' i m).foldl (shrS B S t) (nI n) = nI n'
  | 0, i, n, _ => ⟨n, by omega, rfl⟩
  | m + 1, i, n, h => by
    rw [List.range'_succ, List.foldl_cons]
    obtain ⟨n1, h1, e1⟩ := shrS_nI (n := n) hw hd ht (o := i) (by omega)
    rw [e1]
    obtain ⟨n2, h2, e2⟩ := shrF_nI hw hd ht m (i + 1) n1 (by omega)
    exact ⟨n2, by omega, e2⟩
theorem shr_nI {B : BV} {S : SV} {t : Nat} (hw : wfB B) (hd : dn S) (ht : t < B.1.2.1) : ∃ n, n ≤ 46080 ∧ shrP B S t = nI n := by
  have h16 : 2 ^ B.1.2.1 ≤ 2 ^ 4 := Nat.pow_le_pow_right (by decide) hw.1.2.1
  obtain ⟨n, h, e⟩ := shrF_nI hw hd ht (2 ^ B.1.2.1) 0 0 (by omega)
  exact ⟨n, by omega, e⟩
theorem way_nI {B : BV} {t x hk : Nat} {pl : Int32} (hx : x ≤ 10) : ∀ m S, ∃ n, n ≤ 20 ^ m ∧ wayP B t pl (nI x) hk m S = nI n
  | 0, S => by
    unfold wayP; split
    · exact ⟨1, by decide, rfl⟩
    · exact ⟨0, by decide, rfl⟩
  | m + 1, S => by
    obtain ⟨a, ha, ea⟩ := way_nI hx m (throwP B S t pl (nI 0)).1
    obtain ⟨b, hb, eb⟩ := way_nI hx m (throwP B S t pl (nI 1)).1
    obtain ⟨c, hc, ec⟩ := way_nI hx m (throwP B S t pl (nI 2)).1
    have e : wayP B t pl (nI x) hk (m + 1) S = 0 + (2 * nI x) * wayP B t pl (nI x) hk m (throwP B S t pl (nI 0)).1 + (10 - nI x) * wayP B t pl (nI x) hk m (throwP B S t pl (nI 1)).1 + (10 - nI x) * wayP B t pl (nI x) hk m (throwP B S t pl (nI 2)).1 := by
      rw [wayP]; rfl
    rw [e, ea, eb, ec, show (0 : Int32) = nI 0 from rfl, show (2 : Int32) = nI 2 from rfl, show (10 : Int32) = nI 10 from rfl, pk_sub hx, pk_mul, pk_mul, pk_mul, pk_mul, nI_add, nI_add, nI_add]
    refine ⟨_, ?_, rfl⟩
    have h1 : 2 * x * a ≤ 2 * x * 20 ^ m := Nat.mul_le_mul_left _ ha
    have h2 : (10 - x) * b ≤ (10 - x) * 20 ^ m := Nat.mul_le_mul_left _ hb
    have h3 : (10 - x) * c ≤ (10 - x) * 20 ^ m := Nat.mul_le_mul_left _ hc
    have h4 : 2 * x * 20 ^ m + (10 - x) * 20 ^ m + (10 - x) * 20 ^ m = 20 ^ m * 20 := by
      rw [← Nat.add_mul, ← Nat.add_mul, Nat.mul_comm]; congr 1; omega
    rw [Nat.pow_succ]; omega
/-! what is read is a booth -/
theorem hAt_no {row : Nat → Int32} {pl : Int32} : ∀ n i, hAt row pl i n = -9 → i + n < 2 ^ 31 → ∀ j, i ≤ j → j < i + n → row j ≠ pl
  | 0, i, _, _, j, h1, h2 => by omega
  | n + 1, i, h, hb, j, h1, h2 => by
    unfold hAt at h
    split at h
    · exact absurd h (nI_ne9 (by omega))
    · rename_i hne
      by_cases e : j = i
      · rw [e]; exact hne
      · exact hAt_no n (i + 1) h (by omega) j (by omega) (by omega)
theorem wfB_no : wfB noB := ⟨by decide, fun h hh => absurd hh (Nat.not_lt_zero _), fun h hh => absurd hh (Nat.not_lt_zero _), fun h hh => absurd hh (Nat.not_lt_zero _), fun h h' hh => absurd hh (Nat.not_lt_zero _)⟩
theorem wfB_addH {B : BV} {p q c : Nat} (hw : wfB B) (h5 : B.1.1 < 5) (hp : p < 8) (hq : 1 ≤ q ∧ q ≤ 9) (hc : c < 4) (hn : hAt (B.2 1) (nI p) 0 B.1.1 = -9) : wfB (addH B (nI p) (nI q) (nI c)) := by
  obtain ⟨h1, h2, h3, h4, h6⟩ := hw
  have hno := hAt_no _ _ hn (by omega)
  refine ⟨⟨by simp only [addH]; omega, h1.2⟩, fun h hh => ?_, fun t ht => ?_, fun i hi => ?_, fun h h' hh hh' e => ?_⟩
  · simp only [addH] at hh ⊢
    by_cases e : h = B.1.1
    · subst e; refine ⟨⟨p, hp, by simp [u2, va_up]⟩, ⟨q, hq.1, hq.2, by simp [u2, va_up]⟩, c, hc, by simp [u2, va_up]⟩
    · have := h2 h (by omega)
      simpa [u2, va_up, e] using this
  · have := h3 t ht
    simpa [u2, va_up, addH] using this
  · obtain ⟨⟨a, b1, b2⟩, ⟨a', b1', b2'⟩, b3⟩ := h4 i hi
    refine ⟨⟨a, by simp only [addH]; omega, by simpa [u2, va_up, addH] using b2⟩, ⟨a', by simp only [addH]; omega, by simpa [u2, va_up, addH] using b2'⟩, by simpa [u2, va_up, addH] using b3⟩
  · simp only [addH] at hh hh' e
    by_cases e1 : h = B.1.1
    · by_cases e2 : h' = B.1.1
      · omega
      · subst e1
        simp [u2, va_up, e2] at e
        exact absurd e.symm (hno h' (by omega) (by omega))
    · by_cases e2 : h' = B.1.1
      · subst e2
        simp [u2, va_up, e1] at e
        exact absurd e (hno h (by omega) (by omega))
      · simp [u2, va_up, e1, e2] at e
        exact h6 h h' (by omega) (by omega) e
theorem wfB_addT {B : BV} {p q c : Nat} (hw : wfB B) (h5 : B.1.2.1 < 4) (hp : p < 4) (hq : 1 ≤ q ∧ q ≤ 9) (hc : c < 4) : wfB (addT B (nI p) (nI q) (nI c)) := by
  obtain ⟨h1, h2, h3, h4, h6⟩ := hw
  refine ⟨⟨h1.1, by simp only [addT]; omega, h1.2.2⟩, fun h hh => ?_, fun t ht => ?_, fun i hi => ?_, fun h h' hh hh' e => ?_⟩
  · have := h2 h hh
    simpa [u2, va_up, addT] using this
  · simp only [addT] at ht ⊢
    by_cases e : t = B.1.2.1
    · subst e; refine ⟨⟨p, hp, by simp [u2, va_up]⟩, ⟨q, hq.1, hq.2, by simp [u2, va_up]⟩, c, hc, by simp [u2, va_up]⟩
    · have := h3 t (by omega)
      simpa [u2, va_up, e] using this
  · have := h4 i hi
    simpa [u2, va_up, addT] using this
  · simp [u2, va_up, addT] at e
    exact h6 h h' hh hh' e
theorem wfB_addL {B : BV} {p q c : Nat} (hw : wfB B) (h5 : B.1.2.2 < 4) (hp : p < B.1.1) (hq : q < B.1.1) (hc : c < 2) : wfB (addL B (nI p) (nI q) (nI c)) := by
  obtain ⟨h1, h2, h3, h4, h6⟩ := hw
  refine ⟨⟨h1.1, h1.2.1, by simp only [addL]; omega⟩, fun h hh => ?_, fun t ht => ?_, fun i hi => ?_, fun h h' hh hh' e => ?_⟩
  · have := h2 h hh
    simpa [u2, va_up, addL] using this
  · have := h3 t ht
    simpa [u2, va_up, addL] using this
  · simp only [addL] at hi ⊢
    by_cases e : i = B.1.2.2
    · subst e; refine ⟨⟨p, hp, by simp [u2, va_up]⟩, ⟨q, hq, by simp [u2, va_up]⟩, c, hc, by simp [u2, va_up]⟩
    · have := h4 i (by omega)
      simpa [u2, va_up, e] using this
  · simp [u2, va_up, addL] at e
    exact h6 h h' hh hh' e
theorem fig_nat {tx : Nat → Int32} {n i lo up : Nat} (h : lo ≤ up) (hu : up < 100) (h9 : ¬ figP tx n i (nI lo) (nI up) = -9) : ∃ q, lo ≤ q ∧ q ≤ up ∧ figP tx n i (nI lo) (nI up) = nI q := (figP_or h hu).resolve_left h9
theorem wfB_readH {tx : Nat → Int32} {n p : Nat} {B : BV} (hw : wfB B) : wfB (readHP tx n B p).1 := by
  unfold readHP; repeat' split
  all_goals first | exact hw | skip
  rename_i h5 h1 h2 h3 h4
  obtain ⟨a, -, ha, ea⟩ := fig_nat (lo := 0) (up := 7) (by decide) (by decide) h1
  obtain ⟨b, hb1, hb, eb⟩ := fig_nat (lo := 1) (up := 9) (by decide) (by decide) h3
  obtain ⟨c, -, hc, ec⟩ := fig_nat (lo := 0) (up := 3) (by decide) (by decide) h4
  have ea' : figP tx n (p + 1) 0 7 = nI a := ea
  have eb' : figP tx n (p + 2) 1 9 = nI b := eb
  have ec' : figP tx n (p + 3) 0 3 = nI c := ec
  show wfB (addH B _ _ _)
  rw [ea'] at h2 ⊢
  rw [eb', ec']
  exact wfB_addH hw h5 (by omega) ⟨hb1, hb⟩ (by omega) h2
theorem wfB_readT {tx : Nat → Int32} {n p : Nat} {B : BV} (hw : wfB B) : wfB (readTP tx n B p).1 := by
  unfold readTP; repeat' split
  all_goals first | exact hw | skip
  rename_i h5 h1 h3 h4
  obtain ⟨a, -, ha, ea⟩ := fig_nat (lo := 0) (up := 3) (by decide) (by decide) h1
  obtain ⟨b, hb1, hb, eb⟩ := fig_nat (lo := 1) (up := 9) (by decide) (by decide) h3
  obtain ⟨c, -, hc, ec⟩ := fig_nat (lo := 0) (up := 3) (by decide) (by decide) h4
  have ea' : figP tx n (p + 1) 0 3 = nI a := ea
  have eb' : figP tx n (p + 2) 1 9 = nI b := eb
  have ec' : figP tx n (p + 3) 0 3 = nI c := ec
  show wfB (addT B _ _ _)
  rw [ea', eb', ec']
  exact wfB_addT hw h5 (by omega) ⟨hb1, hb⟩ (by omega)
theorem wfB_readL {tx : Nat → Int32} {n p : Nat} {B : BV} (hw : wfB B) : wfB (readLP tx n B p).1 := by
  have hw1 := hw.1
  unfold readLP; repeat' split
  all_goals first | exact hw | skip
  rename_i h5 h2 h1 h3 h6 h4
  obtain ⟨a, -, ha, ea⟩ := fig_nat (lo := 0) (up := B.1.1 - 1) (by omega) (by omega) h1
  obtain ⟨b, -, hb, eb⟩ := fig_nat (lo := 0) (up := B.1.1 - 1) (by omega) (by omega) h3
  obtain ⟨c, -, hc, ec⟩ := fig_nat (lo := 0) (up := 1) (by decide) (by decide) h4
  have ea' : figP tx n (p + 1) 0 (nI (B.1.1 - 1)) = nI a := ea
  have eb' : figP tx n (p + 2) 0 (nI (B.1.1 - 1)) = nI b := eb
  have ec' : figP tx n (p + 3) 0 1 = nI c := ec
  show wfB (addL B _ _ _)
  rw [ea', eb', ec']
  exact wfB_addL hw (by omega) (by omega) (by omega) (by omega)
theorem wfB_readQ {tx : Nat → Int32} {n p : Nat} {B : BV} (hw : wfB B) : wfB (readQP tx n B p).1 := by
  unfold readQP; repeat' split
  · exact wfB_readH hw
  · exact wfB_readT hw
  · exact wfB_readL hw
  · exact hw
theorem wfB_parts {tx : Nat → Int32} {n : Nat} : ∀ f p B, wfB B → wfB (partsP tx n f p B).1
  | 0, p, B, hw => hw
  | f + 1, p, B, hw => by
    unfold partsP; repeat' split
    · exact wfB_parts f _ _ (wfB_readQ hw)
    · exact wfB_readQ hw
    · exact hw
theorem wfB_read (tx : Nat → Int32) (n : Nat) : wfB (readP tx n).1 := by
  unfold readP; repeat' split
  · exact wfB_no
  · exact wfB_no
  · exact wfB_parts _ _ _ wfB_no
  · exact wfB_no
theorem RepX.tx {F A F1 A1 : mmF} {R : mmR} {G : mmG} {Q : QV} (h : RepX F A R G Q) (hf : frI 1 2 F A F1 A1) {n : Nat} {tx : Nat → Int32} (h1 : F1 1 1 = nI n) (h2 : ∀ i, i < n → A1 2 i = tx i) : RepX F1 A1 R G ((n, tx), Q.2) ∧ frX F A R G F1 A1 R G := by
  obtain ⟨b, d, fi, hR, ⟨hRb, hRd, hb, hd, hbd⟩, ⟨hn, ht⟩, hB, hS, ⟨ha1, ha2, hfi, hac⟩, ⟨he, hes⟩, hk, hg⟩ := h
  have hb2 := bo_f hb
  exact ⟨⟨b, d, fi, hR, ⟨hRb, hRd, hb, hd, hbd⟩, ⟨h1, h2⟩, isB_cong ((hf b (by omega)).1) (fun j h1 h2 => (hf (b + j) (by omega)).2) hB, isS_cong ((hf 3 (by omega)).1) ((hf 4 (by omega)).2) ((hf 5 (by omega)).2) hS, ⟨by rw [(hf 6 (by omega)).1]; exact ha1, by rw [(hf 6 (by omega)).1]; exact ha2, hfi, fun i S hi => isS_cong ((hf _ (by omega)).1) ((hf _ (by omega)).2) ((hf _ (by omega)).2) (hac i S hi)⟩, ⟨by rw [(hf 50 (by omega)).1]; exact he, by rw [(hf 51 (by omega)).2, (hf 52 (by omega)).2, (hf 53 (by omega)).2]; exact hes⟩, fun j hj => ⟨by rw [(hf 62 (by omega)).2]; exact (hk j hj).1, fun S hS => isS_cong ((hf _ (by omega)).1) ((hf _ (by omega)).2) ((hf _ (by omega)).2) ((hk j hj).2 S hS)⟩, hg⟩, fun r hr => ⟨(hf r (by omega)).1, (hf r (by omega)).2, rfl, rfl⟩⟩
theorem RepX.see {F A F1 A1 : mmF} {R : mmR} {G : mmG} {Q : QV} (h : RepX F A R G Q) (hf : frI 50 53 F A F1 A1) {n : Nat} {sr : Nat → Nat → Int32} (h1 : F1 50 3 = nI n) (h2 : ∀ i, i < n → A1 51 i = sr 0 i ∧ A1 52 i = sr 1 i ∧ A1 53 i = sr 2 i) : RepX F1 A1 R G (Q.1, qB Q, qS Q, qA Q, (n, sr), qK Q, qG Q) ∧ frX F A R G F1 A1 R G := by
  obtain ⟨b, d, fi, hR, ⟨hRb, hRd, hb, hd, hbd⟩, ⟨hn, ht⟩, hB, hS, ⟨ha1, ha2, hfi, hac⟩, ⟨he, hes⟩, hk, hg⟩ := h
  have hb2 := bo_f hb
  exact ⟨⟨b, d, fi, hR, ⟨hRb, hRd, hb, hd, hbd⟩, ⟨by rw [(hf 1 (by omega)).1]; exact hn, by rw [(hf 2 (by omega)).2]; exact ht⟩, isB_cong ((hf b (by omega)).1) (fun j h1 h2 => (hf (b + j) (by omega)).2) hB, isS_cong ((hf 3 (by omega)).1) ((hf 4 (by omega)).2) ((hf 5 (by omega)).2) hS, ⟨by rw [(hf 6 (by omega)).1]; exact ha1, by rw [(hf 6 (by omega)).1]; exact ha2, hfi, fun i S hi => isS_cong ((hf _ (by omega)).1) ((hf _ (by omega)).2) ((hf _ (by omega)).2) (hac i S hi)⟩, ⟨h1, h2⟩, fun j hj => ⟨by rw [(hf 62 (by omega)).2]; exact (hk j hj).1, fun S hS => isS_cong ((hf _ (by omega)).1) ((hf _ (by omega)).2) ((hf _ (by omega)).2) ((hk j hj).2 S hS)⟩, hg⟩, fun r hr => ⟨(hf r (by omega)).1, (hf r (by omega)).2, rfl, rfl⟩⟩
theorem RepX.ac {F A F1 A1 : mmF} {R : mmR} {G : mmG} {Q : QV} (h : RepX F A R G Q) (hf : frI 3 49 F A F1 A1) {fi' : Nat} {S' : SV} {a : List SV} (h3 : isS F1 A1 3 S') (h1 : F1 6 1 = nI fi' ∧ F1 6 2 = nI a.length ∧ fi' < 14 ∧ ∀ i S, a[i]? = some S → isS F1 A1 (8 + 3 * ((fi' + i) % 14)) S) : RepX F1 A1 R G (Q.1, qB Q, S', a, qE Q, qK Q, qG Q) ∧ frX F A R G F1 A1 R G := by
  obtain ⟨b, d, fi, hR, ⟨hRb, hRd, hb, hd, hbd⟩, ⟨hn, ht⟩, hB, hS, ⟨ha1, ha2, hfi, hac⟩, ⟨he, hes⟩, hk, hg⟩ := h
  have hb2 := bo_f hb
  exact ⟨⟨b, d, fi', hR, ⟨hRb, hRd, hb, hd, hbd⟩, ⟨by rw [(hf 1 (by omega)).1]; exact hn, by rw [(hf 2 (by omega)).2]; exact ht⟩, isB_cong ((hf b (by omega)).1) (fun j h1 h2 => (hf (b + j) (by omega)).2) hB, h3, h1, ⟨by rw [(hf 50 (by omega)).1]; exact he, by rw [(hf 51 (by omega)).2, (hf 52 (by omega)).2, (hf 53 (by omega)).2]; exact hes⟩, fun j hj => ⟨by rw [(hf 62 (by omega)).2]; exact (hk j hj).1, fun S hS => isS_cong ((hf _ (by omega)).1) ((hf _ (by omega)).2) ((hf _ (by omega)).2) ((hk j hj).2 S hS)⟩, hg⟩, fun r hr => ⟨(hf r (by omega)).1, (hf r (by omega)).2, rfl, rfl⟩⟩
theorem RepX.kp {F A F1 A1 : mmF} {R : mmR} {G : mmG} {Q : QV} (h : RepX F A R G Q) (hf : frI 54 62 F A F1 A1) {K : Nat → Option SV} (h1 : ∀ j, j < 2 → A1 62 j = (if (K j).isSome then 1 else 0) ∧ ∀ S, K j = some S → isS F1 A1 (56 + 3 * j) S) : RepX F1 A1 R G (Q.1, qB Q, qS Q, qA Q, qE Q, K, qG Q) ∧ frX F A R G F1 A1 R G := by
  obtain ⟨b, d, fi, hR, ⟨hRb, hRd, hb, hd, hbd⟩, ⟨hn, ht⟩, hB, hS, ⟨ha1, ha2, hfi, hac⟩, ⟨he, hes⟩, hk, hg⟩ := h
  have hb2 := bo_f hb
  exact ⟨⟨b, d, fi, hR, ⟨hRb, hRd, hb, hd, hbd⟩, ⟨by rw [(hf 1 (by omega)).1]; exact hn, by rw [(hf 2 (by omega)).2]; exact ht⟩, isB_cong ((hf b (by omega)).1) (fun j h1 h2 => (hf (b + j) (by omega)).2) hB, isS_cong ((hf 3 (by omega)).1) ((hf 4 (by omega)).2) ((hf 5 (by omega)).2) hS, ⟨by rw [(hf 6 (by omega)).1]; exact ha1, by rw [(hf 6 (by omega)).1]; exact ha2, hfi, fun i S hi => isS_cong ((hf _ (by omega)).1) ((hf _ (by omega)).2) ((hf _ (by omega)).2) (hac i S hi)⟩, ⟨by rw [(hf 50 (by omega)).1]; exact he, by rw [(hf 51 (by omega)).2, (hf 52 (by omega)).2, (hf 53 (by omega)).2]; exact hes⟩, h1, hg⟩, fun r hr => ⟨(hf r (by omega)).1, (hf r (by omega)).2, rfl, rfl⟩⟩
theorem RepX.sd {F A F1 A1 : mmF} {R : mmR} {G G1 : mmG} {Q : QV} (h : RepX F A R G Q) (hf : frI 63 102 F A F1 A1) {g : Int64} (h0 : G1 0 = g) (h1 : ∀ r, r ≠ 0 → G1 r = G r) : RepX F1 A1 R G1 (Q.1, qB Q, qS Q, qA Q, qE Q, qK Q, g) ∧ frX F A R G F1 A1 R G1 := by
  obtain ⟨b, d, fi, hR, ⟨hRb, hRd, hb, hd, hbd⟩, ⟨hn, ht⟩, hB, hS, ⟨ha1, ha2, hfi, hac⟩, ⟨he, hes⟩, hk, hg⟩ := h
  have hb2 := bo_f hb
  exact ⟨⟨b, d, fi, hR, ⟨hRb, hRd, hb, hd, hbd⟩, ⟨by rw [(hf 1 (by omega)).1]; exact hn, by rw [(hf 2 (by omega)).2]; exact ht⟩, isB_cong ((hf b (by omega)).1) (fun j h1 h2 => (hf (b + j) (by omega)).2) hB, isS_cong ((hf 3 (by omega)).1) ((hf 4 (by omega)).2) ((hf 5 (by omega)).2) hS, ⟨by rw [(hf 6 (by omega)).1]; exact ha1, by rw [(hf 6 (by omega)).1]; exact ha2, hfi, fun i S hi => isS_cong ((hf _ (by omega)).1) ((hf _ (by omega)).2) ((hf _ (by omega)).2) (hac i S hi)⟩, ⟨by rw [(hf 50 (by omega)).1]; exact he, by rw [(hf 51 (by omega)).2, (hf 52 (by omega)).2, (hf 53 (by omega)).2]; exact hes⟩, fun j hj => ⟨by rw [(hf 62 (by omega)).2]; exact (hk j hj).1, fun S hS => isS_cong ((hf _ (by omega)).1) ((hf _ (by omega)).2) ((hf _ (by omega)).2) ((hk j hj).2 S hS)⟩, h0⟩, fun r hr => ⟨(hf r (by omega)).1, (hf r (by omega)).2, rfl, h1 r (by omega)⟩⟩
theorem RL_upd {R : mmR} {x y : Option Nat} (h : mm_RL R) : mm_RL (u2 (u2 R 0 8 x) 0 9 y) := by
  refine ⟨fun r j hj => ?_, fun r i hr hi => ?_⟩
  · by_cases e : r = 0
    · subst e
      have h8 : j ≠ 8 := fun e => by subst e; exact absurd rfl hj
      have h9 : j ≠ 9 := fun e => by subst e; exact absurd rfl hj
      have := h.1 0 j hj
      simp [u2, va_up, h8, h9]
      simpa using this
    · simp [u2, va_up, e]
      exact h.1 r j hj
  · have e : r ≠ 0 := fun e => by subst e; exact absurd hr (by decide)
    simp [u2, va_up, e]
    exact h.2 r i hr hi
/-- a new fair: the draft d has become the booth, stand, acts and slots are made anew -/
theorem RepX.fair {F A F1 A1 : mmF} {R R1 : mmR} {G : mmG} {Q : QV} {b d : Nat} (h : RepX F A R G Q) (hRb : R 0 8 = some b) (hRd : R 0 9 = some d) (hR1 : R1 = u2 (u2 R 0 8 (some d)) 0 9 (some b)) {B : BV} {S : SV} (hf : ∀ r, (r < 3 ∨ 62 < r) → (r < d ∨ d + 9 < r) → F1 r = F r ∧ A1 r = A r) (hfs : ∀ r, 50 ≤ r → r ≤ 53 → F1 r = F r ∧ A1 r = A r) (hB : isB F1 A1 d B) (hS : isS F1 A1 3 S) (h6 : F1 6 1 = 0 ∧ F1 6 2 = 0) (h62 : A1 62 0 = 0 ∧ A1 62 1 = 0) : RepX F1 A1 R1 G (Q.1, B, S, [], qE Q, fun _ => none, qG Q) ∧ frX F A R G F1 A1 R1 G := by
  obtain ⟨b', d', fi, hR, ⟨hRb', hRd', hb, hd, hbd⟩, ⟨hn, ht⟩, hB0, hS0, hac, ⟨he, hes⟩, hk, hg⟩ := h
  have e1 : b' = b := Option.some.inj (hRb'.symm.trans hRb)
  have e2 : d' = d := Option.some.inj (hRd'.symm.trans hRd)
  subst e1; subst e2
  have hd2 := bo_f hd
  have hRL : mm_RL R1 := by rw [hR1]; exact RL_upd hR
  refine ⟨⟨d', b', 0, hRL, ⟨by rw [hR1]; simp [u2, va_up], by rw [hR1]; simp [u2, va_up], hd, hb, Ne.symm hbd⟩, ⟨by rw [(hf 1 (by omega) (by omega)).1]; exact hn, by rw [(hf 2 (by omega) (by omega)).2]; exact ht⟩, hB, hS, ⟨h6.1, h6.2, by decide, fun i S hi => absurd (show ([] : List SV)[i]? = some S from hi) (by simp)⟩, ⟨by rw [(hfs 50 (by omega) (by omega)).1]; exact he, by rw [(hfs 51 (by omega) (by omega)).2, (hfs 52 (by omega) (by omega)).2, (hfs 53 (by omega) (by omega)).2]; exact hes⟩, fun j hj => ⟨?_, fun S hS => absurd (show (none : Option SV) = some S from hS) (by simp)⟩, hg⟩, fun r hr => ⟨(hf r (by omega) (by omega)).1, (hf r (by omega) (by omega)).2, ?_, rfl⟩⟩
  · rcases (show j = 0 ∨ j = 1 by omega) with rfl | rfl
    · exact h62.1
    · exact h62.2
  · rw [hR1]; simp [u2, va_up, show r ≠ 0 by omega]
theorem x01 (x : Int32) : (x < 0 ∨ 2 ≤ x) ∨ ∃ j, j < 2 ∧ x = nI j := by
  rcases pk_ix x (n := 2) (by decide) with h | h | h
  · exact Or.inl (Or.inl h)
  · exact Or.inl (Or.inr h)
  · exact Or.inr h
theorem ft9 (k : Nat) (h : k ≠ 10) : mm_ft 9 k < 2 := by
  rcases Nat.lt_or_ge k 11 with h1 | h1
  · have : ∀ k, k < 11 → k ≠ 10 → mm_ft 9 k < 2 := by decide +kernel
    exact this k h1 h
  · unfold mm_ft
    rw [List.getD_eq_getElem?_getD (l := mm_ftl.getD 9 []), List.getElem?_eq_none (by exact h1)]
    decide
theorem ft10 (k : Nat) (h : k ≠ 29) : mm_ft 10 k < 2 := by
  rcases Nat.lt_or_ge k 41 with h1 | h1
  · have : ∀ k, k < 41 → k ≠ 29 → mm_ft 10 k < 2 := by decide +kernel
    exact this k h1 h
  · unfold mm_ft
    rw [List.getD_eq_getElem?_getD (l := mm_ftl.getD 10 []), List.getElem?_eq_none (by exact h1)]
    decide
