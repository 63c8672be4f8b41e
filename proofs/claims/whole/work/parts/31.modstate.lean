/-! THE MODEL'S STATE -/
def RepM (F A : mmF) (R : mmR) (G : mmG) (Q : QV) : Prop := mm_RL R ∧ (F 123 2 = nI Q.1.1 ∧ ∀ i, i < Q.1.1 → A 124 i = Q.1.2 i) ∧ isM F A 4 125 (qB Q) ∧ isP A 131 (qS Q) ∧ (F 123 22 = nI (qA Q).length ∧ ∀ i S, (qA Q)[i]? = some S → ∀ k, k < 15 → A 134 (15 * i + k) = pgS S k) ∧ (F 123 25 = nI (qE Q).1 ∧ ∀ i, i < (qE Q).1 → A 137 i = (qE Q).2 0 i ∧ A 138 i = (qE Q).2 1 i ∧ A 139 i = (qE Q).2 2 i) ∧ (∀ j, j < 2 → A 136 j = (if (qK Q j).isSome then 1 else 0) ∧ ∀ S, qK Q j = some S → ∀ k, k < 15 → A 135 (15 * j + k) = pgS S k) ∧ G 123 = qG Q
/-- the class's roles are as they were -/
def frY (F A : mmF) (R : mmR) (G : mmG) (F1 A1 : mmF) (R1 : mmR) (G1 : mmG) : Prop := ∀ r, r < 123 → F1 r = F r ∧ A1 r = A r ∧ R1 r = R r ∧ G1 r = G r
theorem frY.refl (F A : mmF) (R : mmR) (G : mmG) : frY F A R G F A R G := fun _ _ => ⟨rfl, rfl, rfl, rfl⟩
theorem frY.trans {F A F1 A1 F2 A2 : mmF} {R R1 R2 : mmR} {G G1 G2 : mmG} (h : frY F A R G F1 A1 R1 G1) (h2 : frY F1 A1 R1 G1 F2 A2 R2 G2) : frY F A R G F2 A2 R2 G2 := fun r hr => ⟨(h2 r hr).1.trans (h r hr).1, (h2 r hr).2.1.trans (h r hr).2.1, (h2 r hr).2.2.1.trans (h r hr).2.2.1, (h2 r hr).2.2.2.trans (h r hr).2.2.2⟩
/-- of the state only the field e and the rows x, y, z may have changed -/
def scM (e x y z : Nat) (F A F1 A1 : mmF) : Prop := (∀ r, r ≠ 123 → F1 r = F r) ∧ (∀ j, (j = 2 ∨ j = 4 ∨ j = 6 ∨ j = 8 ∨ j = 22 ∨ j = 25) → j ≠ e → F1 123 j = F 123 j) ∧ ∀ r, (r < 128 ∨ r = 131 ∨ (134 ≤ r ∧ r ≤ 139)) → r ≠ x → r ≠ y → r ≠ z → A1 r = A r
abbrev scN (F A F1 A1 : mmF) : Prop := scM 999 999 999 999 F A F1 A1
theorem scM.refl (e x y z : Nat) (F A : mmF) : scM e x y z F A F A := ⟨fun _ _ => rfl, fun _ _ _ => rfl, fun _ _ _ _ _ => rfl⟩
theorem scM.trans {e x y z : Nat} {F A F1 A1 F2 A2 : mmF} (h : scM e x y z F A F1 A1) (h2 : scM e x y z F1 A1 F2 A2) : scM e x y z F A F2 A2 := ⟨fun r hr => (h2.1 r hr).trans (h.1 r hr), fun j h1 h3 => (h2.2.1 j h1 h3).trans (h.2.1 j h1 h3), fun r a b c d => (h2.2.2 r a b c d).trans (h.2.2 r a b c d)⟩
theorem scM.wide (e x y z : Nat) {F A F1 A1 : mmF} (h : scN F A F1 A1) : scM e x y z F A F1 A1 := ⟨h.1, fun j h1 _ => h.2.1 j h1 (by omega), fun r a _ _ _ => h.2.2 r a (by omega) (by omega) (by omega)⟩
theorem frP.N {p : Nat} {F A F1 A1 : mmF} (h : frP p F A F1 A1) (hp : p = 132 ∨ p = 133) : scN F A F1 A1 := ⟨h.1, fun j h1 _ => h.2.1 j (by omega), fun r a _ _ _ => h.2.2 r (by omega) (by omega) (by omega)⟩
theorem frP.S {F A F1 A1 : mmF} (h : frP 131 F A F1 A1) : scM 999 131 999 999 F A F1 A1 := ⟨h.1, fun j h1 _ => h.2.1 j (by omega), fun r a b _ _ => h.2.2 r b (by omega) (by omega)⟩
theorem scN.F {F A : mmF} {j : Nat} {v : Int32} (hj : ¬ (j = 2 ∨ j = 4 ∨ j = 6 ∨ j = 8 ∨ j = 22 ∨ j = 25)) : scN F A (u2 F 123 j v) A := ⟨fun r hr => u2_ne hr, fun i hi _ => by rw [u2_row, va_up_ne _ _ (by omega)], fun _ _ _ _ _ => rfl⟩
theorem scN.A {F A A1 : mmF} {r0 : Nat} (h0 : ¬ (r0 < 128 ∨ r0 = 131 ∨ (134 ≤ r0 ∧ r0 ≤ 139))) (h : ∀ r, r ≠ r0 → A1 r = A r) : scN F A F A1 := ⟨fun _ _ => rfl, fun _ _ _ => rfl, fun r hr _ _ _ => h r (by omega)⟩
theorem RepM.scr {F A F1 A1 : mmF} {R : mmR} {G : mmG} {Q : QV} (h : RepM F A R G Q) (hf : scM 999 999 999 999 F A F1 A1)  : RepM F1 A1 R G Q ∧ frY F A R G F1 A1 R G := by
  obtain ⟨hR, ⟨hn, ht⟩, hM, hP, ⟨ha, hac⟩, ⟨he, hes⟩, hk, hg⟩ := h
  exact ⟨⟨hR, ⟨by rw [hf.2.1 2 (by omega) (by omega)]; exact hn, by rw [hf.2.2 124 (by omega) (by omega) (by omega) (by omega)]; exact ht⟩, isM_c hM ⟨hf.2.1 4 (by omega) (by omega), hf.2.1 6 (by omega) (by omega), hf.2.1 8 (by omega) (by omega)⟩ ⟨hf.2.2 125 (by omega) (by omega) (by omega) (by omega), hf.2.2 126 (by omega) (by omega) (by omega) (by omega), hf.2.2 127 (by omega) (by omega) (by omega) (by omega)⟩, isP_c hP (hf.2.2 131 (by omega) (by omega) (by omega) (by omega)), ⟨by rw [hf.2.1 22 (by omega) (by omega)]; exact ha, by rw [hf.2.2 134 (by omega) (by omega) (by omega) (by omega)]; exact hac⟩, ⟨by rw [hf.2.1 25 (by omega) (by omega)]; exact he, by rw [hf.2.2 137 (by omega) (by omega) (by omega) (by omega), hf.2.2 138 (by omega) (by omega) (by omega) (by omega), hf.2.2 139 (by omega) (by omega) (by omega) (by omega)]; exact hes⟩, by rw [hf.2.2 135 (by omega) (by omega) (by omega) (by omega), hf.2.2 136 (by omega) (by omega) (by omega) (by omega)]; exact hk, hg⟩, fun r hr => ⟨hf.1 r (by omega), hf.2.2 r (by omega) (by omega) (by omega) (by omega), rfl, rfl⟩⟩
theorem RepM.tx {F A F1 A1 : mmF} {R : mmR} {G : mmG} {Q : QV} (h : RepM F A R G Q) (hf : scM 2 124 999 999 F A F1 A1) {n : Nat} {tx : Nat → Int32} (h1 : F1 123 2 = nI n) (h2 : ∀ i, i < n → A1 124 i = tx i) : RepM F1 A1 R G ((n, tx), Q.2) ∧ frY F A R G F1 A1 R G := by
  obtain ⟨hR, ⟨hn, ht⟩, hM, hP, ⟨ha, hac⟩, ⟨he, hes⟩, hk, hg⟩ := h
  exact ⟨⟨hR, ⟨h1, h2⟩, isM_c hM ⟨hf.2.1 4 (by omega) (by omega), hf.2.1 6 (by omega) (by omega), hf.2.1 8 (by omega) (by omega)⟩ ⟨hf.2.2 125 (by omega) (by omega) (by omega) (by omega), hf.2.2 126 (by omega) (by omega) (by omega) (by omega), hf.2.2 127 (by omega) (by omega) (by omega) (by omega)⟩, isP_c hP (hf.2.2 131 (by omega) (by omega) (by omega) (by omega)), ⟨by rw [hf.2.1 22 (by omega) (by omega)]; exact ha, by rw [hf.2.2 134 (by omega) (by omega) (by omega) (by omega)]; exact hac⟩, ⟨by rw [hf.2.1 25 (by omega) (by omega)]; exact he, by rw [hf.2.2 137 (by omega) (by omega) (by omega) (by omega), hf.2.2 138 (by omega) (by omega) (by omega) (by omega), hf.2.2 139 (by omega) (by omega) (by omega) (by omega)]; exact hes⟩, by rw [hf.2.2 135 (by omega) (by omega) (by omega) (by omega), hf.2.2 136 (by omega) (by omega) (by omega) (by omega)]; exact hk, hg⟩, fun r hr => ⟨hf.1 r (by omega), hf.2.2 r (by omega) (by omega) (by omega) (by omega), rfl, rfl⟩⟩
theorem RepM.st {F A F1 A1 : mmF} {R : mmR} {G : mmG} {Q : QV} (h : RepM F A R G Q) (hf : scM 999 131 999 999 F A F1 A1) {S : SV} (h1 : isP A1 131 S) : RepM F1 A1 R G (stQ Q S) ∧ frY F A R G F1 A1 R G := by
  obtain ⟨hR, ⟨hn, ht⟩, hM, hP, ⟨ha, hac⟩, ⟨he, hes⟩, hk, hg⟩ := h
  exact ⟨⟨hR, ⟨by rw [hf.2.1 2 (by omega) (by omega)]; exact hn, by rw [hf.2.2 124 (by omega) (by omega) (by omega) (by omega)]; exact ht⟩, isM_c hM ⟨hf.2.1 4 (by omega) (by omega), hf.2.1 6 (by omega) (by omega), hf.2.1 8 (by omega) (by omega)⟩ ⟨hf.2.2 125 (by omega) (by omega) (by omega) (by omega), hf.2.2 126 (by omega) (by omega) (by omega) (by omega), hf.2.2 127 (by omega) (by omega) (by omega) (by omega)⟩, h1, ⟨by rw [hf.2.1 22 (by omega) (by omega)]; exact ha, by rw [hf.2.2 134 (by omega) (by omega) (by omega) (by omega)]; exact hac⟩, ⟨by rw [hf.2.1 25 (by omega) (by omega)]; exact he, by rw [hf.2.2 137 (by omega) (by omega) (by omega) (by omega), hf.2.2 138 (by omega) (by omega) (by omega) (by omega), hf.2.2 139 (by omega) (by omega) (by omega) (by omega)]; exact hes⟩, by rw [hf.2.2 135 (by omega) (by omega) (by omega) (by omega), hf.2.2 136 (by omega) (by omega) (by omega) (by omega)]; exact hk, hg⟩, fun r hr => ⟨hf.1 r (by omega), hf.2.2 r (by omega) (by omega) (by omega) (by omega), rfl, rfl⟩⟩
theorem RepM.nt {F A F1 A1 : mmF} {R : mmR} {G : mmG} {Q : QV} (h : RepM F A R G Q) (hf : scM 22 134 999 999 F A F1 A1) {a : List SV} (h1 : F1 123 22 = nI a.length) (h2 : ∀ i S, a[i]? = some S → ∀ k, k < 15 → A1 134 (15 * i + k) = pgS S k) : RepM F1 A1 R G (Q.1, qB Q, qS Q, a, qE Q, qK Q, qG Q) ∧ frY F A R G F1 A1 R G := by
  obtain ⟨hR, ⟨hn, ht⟩, hM, hP, ⟨ha, hac⟩, ⟨he, hes⟩, hk, hg⟩ := h
  exact ⟨⟨hR, ⟨by rw [hf.2.1 2 (by omega) (by omega)]; exact hn, by rw [hf.2.2 124 (by omega) (by omega) (by omega) (by omega)]; exact ht⟩, isM_c hM ⟨hf.2.1 4 (by omega) (by omega), hf.2.1 6 (by omega) (by omega), hf.2.1 8 (by omega) (by omega)⟩ ⟨hf.2.2 125 (by omega) (by omega) (by omega) (by omega), hf.2.2 126 (by omega) (by omega) (by omega) (by omega), hf.2.2 127 (by omega) (by omega) (by omega) (by omega)⟩, isP_c hP (hf.2.2 131 (by omega) (by omega) (by omega) (by omega)), ⟨h1, h2⟩, ⟨by rw [hf.2.1 25 (by omega) (by omega)]; exact he, by rw [hf.2.2 137 (by omega) (by omega) (by omega) (by omega), hf.2.2 138 (by omega) (by omega) (by omega) (by omega), hf.2.2 139 (by omega) (by omega) (by omega) (by omega)]; exact hes⟩, by rw [hf.2.2 135 (by omega) (by omega) (by omega) (by omega), hf.2.2 136 (by omega) (by omega) (by omega) (by omega)]; exact hk, hg⟩, fun r hr => ⟨hf.1 r (by omega), hf.2.2 r (by omega) (by omega) (by omega) (by omega), rfl, rfl⟩⟩
theorem RepM.un {F A F1 A1 : mmF} {R : mmR} {G : mmG} {Q : QV} (h : RepM F A R G Q) (hf : scM 22 131 999 999 F A F1 A1) {S : SV} {a : List SV} (h0 : isP A1 131 S) (h1 : F1 123 22 = nI a.length) (h2 : ∀ (i : Nat) (S : SV), a[i]? = some S → (qA Q)[i]? = some S) : RepM F1 A1 R G (Q.1, qB Q, S, a, qE Q, qK Q, qG Q) ∧ frY F A R G F1 A1 R G := by
  obtain ⟨hR, ⟨hn, ht⟩, hM, hP, ⟨ha, hac⟩, ⟨he, hes⟩, hk, hg⟩ := h
  exact ⟨⟨hR, ⟨by rw [hf.2.1 2 (by omega) (by omega)]; exact hn, by rw [hf.2.2 124 (by omega) (by omega) (by omega) (by omega)]; exact ht⟩, isM_c hM ⟨hf.2.1 4 (by omega) (by omega), hf.2.1 6 (by omega) (by omega), hf.2.1 8 (by omega) (by omega)⟩ ⟨hf.2.2 125 (by omega) (by omega) (by omega) (by omega), hf.2.2 126 (by omega) (by omega) (by omega) (by omega), hf.2.2 127 (by omega) (by omega) (by omega) (by omega)⟩, h0, ⟨h1, by rw [hf.2.2 134 (by omega) (by omega) (by omega) (by omega)]; exact fun i S hi => hac i S (h2 i S hi)⟩, ⟨by rw [hf.2.1 25 (by omega) (by omega)]; exact he, by rw [hf.2.2 137 (by omega) (by omega) (by omega) (by omega), hf.2.2 138 (by omega) (by omega) (by omega) (by omega), hf.2.2 139 (by omega) (by omega) (by omega) (by omega)]; exact hes⟩, by rw [hf.2.2 135 (by omega) (by omega) (by omega) (by omega), hf.2.2 136 (by omega) (by omega) (by omega) (by omega)]; exact hk, hg⟩, fun r hr => ⟨hf.1 r (by omega), hf.2.2 r (by omega) (by omega) (by omega) (by omega), rfl, rfl⟩⟩
theorem RepM.sn {F A F1 A1 : mmF} {R : mmR} {G : mmG} {Q : QV} (h : RepM F A R G Q) (hf : scM 25 137 138 139 F A F1 A1) {n : Nat} {sr : Nat → Nat → Int32} (h1 : F1 123 25 = nI n) (h2 : ∀ i, i < n → A1 137 i = sr 0 i ∧ A1 138 i = sr 1 i ∧ A1 139 i = sr 2 i) : RepM F1 A1 R G (Q.1, qB Q, qS Q, qA Q, (n, sr), qK Q, qG Q) ∧ frY F A R G F1 A1 R G := by
  obtain ⟨hR, ⟨hn, ht⟩, hM, hP, ⟨ha, hac⟩, ⟨he, hes⟩, hk, hg⟩ := h
  exact ⟨⟨hR, ⟨by rw [hf.2.1 2 (by omega) (by omega)]; exact hn, by rw [hf.2.2 124 (by omega) (by omega) (by omega) (by omega)]; exact ht⟩, isM_c hM ⟨hf.2.1 4 (by omega) (by omega), hf.2.1 6 (by omega) (by omega), hf.2.1 8 (by omega) (by omega)⟩ ⟨hf.2.2 125 (by omega) (by omega) (by omega) (by omega), hf.2.2 126 (by omega) (by omega) (by omega) (by omega), hf.2.2 127 (by omega) (by omega) (by omega) (by omega)⟩, isP_c hP (hf.2.2 131 (by omega) (by omega) (by omega) (by omega)), ⟨by rw [hf.2.1 22 (by omega) (by omega)]; exact ha, by rw [hf.2.2 134 (by omega) (by omega) (by omega) (by omega)]; exact hac⟩, ⟨h1, h2⟩, by rw [hf.2.2 135 (by omega) (by omega) (by omega) (by omega), hf.2.2 136 (by omega) (by omega) (by omega) (by omega)]; exact hk, hg⟩, fun r hr => ⟨hf.1 r (by omega), hf.2.2 r (by omega) (by omega) (by omega) (by omega), rfl, rfl⟩⟩
theorem RepM.kp {F A F1 A1 : mmF} {R : mmR} {G : mmG} {Q : QV} (h : RepM F A R G Q) (hf : scM 999 135 136 999 F A F1 A1) {K : Nat → Option SV} (h1 : ∀ j, j < 2 → A1 136 j = (if (K j).isSome then 1 else 0) ∧ ∀ S, K j = some S → ∀ k, k < 15 → A1 135 (15 * j + k) = pgS S k) : RepM F1 A1 R G (Q.1, qB Q, qS Q, qA Q, qE Q, K, qG Q) ∧ frY F A R G F1 A1 R G := by
  obtain ⟨hR, ⟨hn, ht⟩, hM, hP, ⟨ha, hac⟩, ⟨he, hes⟩, hk, hg⟩ := h
  exact ⟨⟨hR, ⟨by rw [hf.2.1 2 (by omega) (by omega)]; exact hn, by rw [hf.2.2 124 (by omega) (by omega) (by omega) (by omega)]; exact ht⟩, isM_c hM ⟨hf.2.1 4 (by omega) (by omega), hf.2.1 6 (by omega) (by omega), hf.2.1 8 (by omega) (by omega)⟩ ⟨hf.2.2 125 (by omega) (by omega) (by omega) (by omega), hf.2.2 126 (by omega) (by omega) (by omega) (by omega), hf.2.2 127 (by omega) (by omega) (by omega) (by omega)⟩, isP_c hP (hf.2.2 131 (by omega) (by omega) (by omega) (by omega)), ⟨by rw [hf.2.1 22 (by omega) (by omega)]; exact ha, by rw [hf.2.2 134 (by omega) (by omega) (by omega) (by omega)]; exact hac⟩, ⟨by rw [hf.2.1 25 (by omega) (by omega)]; exact he, by rw [hf.2.2 137 (by omega) (by omega) (by omega) (by omega), hf.2.2 138 (by omega) (by omega) (by omega) (by omega), hf.2.2 139 (by omega) (by omega) (by omega) (by omega)]; exact hes⟩, h1, hg⟩, fun r hr => ⟨hf.1 r (by omega), hf.2.2 r (by omega) (by omega) (by omega) (by omega), rfl, rfl⟩⟩
theorem RepM.sd {F A F1 A1 : mmF} {R : mmR} {G G1 : mmG} {Q : QV} (h : RepM F A R G Q) (hf : scN F A F1 A1) {g : Int64} (h0 : G1 123 = g) (h1 : ∀ r, r ≠ 123 → G1 r = G r) : RepM F1 A1 R G1 (Q.1, qB Q, qS Q, qA Q, qE Q, qK Q, g) ∧ frY F A R G F1 A1 R G1 := by
  obtain ⟨hR, ⟨hn, ht⟩, hM, hP, ⟨ha, hac⟩, ⟨he, hes⟩, hk, hg⟩ := h
  exact ⟨⟨hR, ⟨by rw [hf.2.1 2 (by omega) (by omega)]; exact hn, by rw [hf.2.2 124 (by omega) (by omega) (by omega) (by omega)]; exact ht⟩, isM_c hM ⟨hf.2.1 4 (by omega) (by omega), hf.2.1 6 (by omega) (by omega), hf.2.1 8 (by omega) (by omega)⟩ ⟨hf.2.2 125 (by omega) (by omega) (by omega) (by omega), hf.2.2 126 (by omega) (by omega) (by omega) (by omega), hf.2.2 127 (by omega) (by omega) (by omega) (by omega)⟩, isP_c hP (hf.2.2 131 (by omega) (by omega) (by omega) (by omega)), ⟨by rw [hf.2.1 22 (by omega) (by omega)]; exact ha, by rw [hf.2.2 134 (by omega) (by omega) (by omega) (by omega)]; exact hac⟩, ⟨by rw [hf.2.1 25 (by omega) (by omega)]; exact he, by rw [hf.2.2 137 (by omega) (by omega) (by omega) (by omega), hf.2.2 138 (by omega) (by omega) (by omega) (by omega), hf.2.2 139 (by omega) (by omega) (by omega) (by omega)]; exact hes⟩, by rw [hf.2.2 135 (by omega) (by omega) (by omega) (by omega), hf.2.2 136 (by omega) (by omega) (by omega) (by omega)]; exact hk, h0⟩, fun r hr => ⟨hf.1 r (by omega), hf.2.2 r (by omega) (by omega) (by omega) (by omega), rfl, h1 r (by omega)⟩⟩
/-! reading -/
theorem fig_end {tx : Nat → Int32} {n : Nat} {lo up : Int32} (hlo : (-9 : Int32) < lo) : figP tx n n lo up = -9 := by
  unfold figP; rw [if_neg (Nat.lt_irrefl n), if_pos (Int32.lt_trans (by decide) hlo)]
theorem fig_in {tx : Nat → Int32} {n i : Nat} {lo up : Int32} (h : i < n) : figP tx n i lo up = if inP (tx i - 48) lo up = 0 then -9 else tx i - 48 := by
  unfold figP inP; rw [if_pos h]
  split
  · rfl
  · split
    · rfl
    · rfl
theorem inP_ge {x a b : Int32} (h : ¬ inP x a b = 0) : a ≤ x := by
  unfold inP at h
  split at h
  · exact absurd rfl h
  · rename_i h1; exact Int32.not_lt.mp h1
theorem ne9_of {x lo : Int32} (hlo : (-9 : Int32) < lo) (h : lo ≤ x) : ¬ x = -9 := fun e => by
  rw [e] at h; exact absurd hlo (Int32.not_lt.mpr h)
def frR (F A F1 A1 : mmF) : Prop := (∀ r, r ≠ 123 → F1 r = F r) ∧ (∀ j, j ≠ 3 → j ≠ 12 → j ≠ 14 → j ≠ 16 → F1 123 j = F 123 j) ∧ ∀ r, (r < 128 ∨ 130 < r) → A1 r = A r
theorem frR.refl (F A : mmF) : frR F A F A := ⟨fun _ _ => rfl, fun _ _ _ _ _ => rfl, fun _ _ => rfl⟩
theorem frR.trans {F A F1 A1 F2 A2 : mmF} (h : frR F A F1 A1) (h2 : frR F1 A1 F2 A2) : frR F A F2 A2 := ⟨fun r hr => (h2.1 r hr).trans (h.1 r hr), fun j a b c d => (h2.2.1 j a b c d).trans (h.2.1 j a b c d), fun r hr => (h2.2.2 r hr).trans (h.2.2 r hr)⟩
theorem frR.F {F A : mmF} {j : Nat} {v : Int32} (hj : j = 3 ∨ j = 12 ∨ j = 14 ∨ j = 16) : frR F A (u2 F 123 j v) A := ⟨fun r hr => u2_ne hr, fun i a b c d => by rw [u2_row, va_up_ne _ _ (by omega)], fun _ _ => rfl⟩
theorem frR.A {F A : mmF} {r0 i : Nat} {v : Int32} (h : r0 = 128 ∨ r0 = 129 ∨ r0 = 130) : frR F A F (u2 A r0 i v) := ⟨fun r hr => rfl, fun _ _ _ _ _ => rfl, fun r hr => u2_ne (by omega)⟩
theorem frR.N {F A F1 A1 : mmF} (h : frR F A F1 A1) : scN F A F1 A1 := ⟨h.1, fun j h1 _ => h.2.1 j (by omega) (by omega) (by omega) (by omega), fun r hr _ _ _ => h.2.2 r (by omega)⟩
/-- the place read: NONE if it is no figure of 0 .. 7, or taken -/
def plcP (tx : Nat → Int32) (n : Nat) (B : BV) (i : Nat) : Int32 := if figP tx n i 0 7 = -9 then -9 else if hAt (B.2 1) (figP tx n i 0 7) 0 B.1.1 = -9 then figP tx n i 0 7 else -9
theorem hAt_ne {row : Nat → Int32} {pl : Int32} {n j : Nat} (hj : j < n) (hn : n < 2 ^ 31) (e : row j = pl) : ¬ hAt row pl 0 n = -9 := fun h => absurd e (hAt_no n 0 h (by omega) j (Nat.zero_le _) (by omega))
theorem hAt_all {row : Nat → Int32} {pl : Int32} {n : Nat} (h : ∀ j, j < n → row j ≠ pl) : hAt row pl 0 n = -9 := by
  rcases hAt_or row pl n 0 with h1 | ⟨j, -, hj, -, e⟩
  · exact h1
  · exact absurd e (h j (by omega))
theorem plc_no1 {tx : Nat → Int32} {n i : Nat} {B : BV} {v : Int32} (hf : figP tx n i 0 7 = if isIn v 8 = 0 then -9 else v) (h : isIn v 8 = 0 ∨ ∃ j, j < B.1.1 ∧ B.2 1 j = v) (hb : B.1.1 ≤ 5) : plcP tx n B i = -9 := by
  unfold plcP
  rcases h with h | ⟨j, hj, e⟩
  · rw [hf, if_pos h, if_pos rfl]
  · by_cases h9 : figP tx n i 0 7 = -9
    · rw [if_pos h9]
    · have : figP tx n i 0 7 = v := by
        rw [hf] at h9 ⊢
        split
        · rename_i h2; rw [if_pos h2] at h9; exact absurd rfl h9
        · rfl
      rw [if_neg h9, this, if_neg (hAt_ne hj (by omega) e)]
theorem plc_yes {tx : Nat → Int32} {n i : Nat} {B : BV} {v : Int32} (hf : figP tx n i 0 7 = if isIn v 8 = 0 then -9 else v) (h : ¬ isIn v 8 = 0) (hall : ∀ j, j < B.1.1 → B.2 1 j ≠ v) : plcP tx n B i = v ∧ ¬ v = -9 := by
  obtain ⟨q, hq, rfl⟩ := isIn_nat (n := 8) (by decide) h
  have h9 := nI_ne9 (j := q) (by omega)
  rw [if_neg h] at hf
  refine ⟨?_, h9⟩
  unfold plcP
  rw [hf, if_neg h9, if_pos (hAt_all hall)]
theorem isM_addH {F A : mmF} {B : BV} (w f c : Int32) (hM : isM F A 12 128 B) : isM (u2 F 123 12 (nI (B.1.1 + 1))) (u2 (u2 (u2 A 128 (3 * B.1.1) w) 128 (3 * B.1.1 + 1) f) 128 (3 * B.1.1 + 2) c) 12 128 (addH B w f c) := by
  refine ⟨by simp [u2, va_up, addH], by have h3 := hM.2.1; simp [u2, va_up, addH] at h3 ⊢; exact h3, by have h3 := hM.2.2.1; simp [u2, va_up, addH] at h3 ⊢; exact h3, fun h hh m hm => ?_, fun h hh m hm => ?_, fun h hh m hm => ?_⟩
  ·
    simp only [addH] at hh ⊢
    by_cases e : h = B.1.1
    · subst e
      rcases (show m = 0 ∨ m = 1 ∨ m = 2 by omega) with rfl | rfl | rfl <;> simp [u2, va_up]
    · have h3 := hM.2.2.2.1 h (by omega) m hm
      have e1 : ¬ 3 * h + m = 3 * B.1.1 := by omega
      have e2 : ¬ 3 * h + m = 3 * B.1.1 + 1 := by omega
      have e3 : ¬ 3 * h + m = 3 * B.1.1 + 2 := by omega
      simp [u2, va_up, e, e1, e2, e3] at h3 ⊢
      rw [h3]
      rcases (show m = 0 ∨ m = 1 ∨ m = 2 by omega) with rfl | rfl | rfl <;> simp [va_up, e]
  ·
    have h3 := hM.2.2.2.2.1 h hh m hm
    simp only [addH, u2, va_up] at h3 ⊢
    rcases (show m = 0 ∨ m = 1 ∨ m = 2 by omega) with rfl | rfl | rfl <;> simpa using h3
  ·
    have h3 := hM.2.2.2.2.2 h hh m hm
    simp only [addH, u2, va_up] at h3 ⊢
    rcases (show m = 0 ∨ m = 1 ∨ m = 2 by omega) with rfl | rfl | rfl <;> simpa using h3
theorem isM_addT {F A : mmF} {B : BV} (w f c : Int32) (hM : isM F A 12 128 B) : isM (u2 F 123 14 (nI (B.1.2.1 + 1))) (u2 (u2 (u2 A 129 (3 * B.1.2.1) w) 129 (3 * B.1.2.1 + 1) f) 129 (3 * B.1.2.1 + 2) c) 12 128 (addT B w f c) := by
  refine ⟨by have h3 := hM.1; simp [u2, va_up, addT] at h3 ⊢; exact h3, by simp [u2, va_up, addT], by have h3 := hM.2.2.1; simp [u2, va_up, addT] at h3 ⊢; exact h3, fun h hh m hm => ?_, fun h hh m hm => ?_, fun h hh m hm => ?_⟩
  ·
    have h3 := hM.2.2.2.1 h hh m hm
    simp only [addT, u2, va_up] at h3 ⊢
    rcases (show m = 0 ∨ m = 1 ∨ m = 2 by omega) with rfl | rfl | rfl <;> simpa using h3
  ·
    simp only [addT] at hh ⊢
    by_cases e : h = B.1.2.1
    · subst e
      rcases (show m = 0 ∨ m = 1 ∨ m = 2 by omega) with rfl | rfl | rfl <;> simp [u2, va_up]
    · have h3 := hM.2.2.2.2.1 h (by omega) m hm
      have e1 : ¬ 3 * h + m = 3 * B.1.2.1 := by omega
      have e2 : ¬ 3 * h + m = 3 * B.1.2.1 + 1 := by omega
      have e3 : ¬ 3 * h + m = 3 * B.1.2.1 + 2 := by omega
      simp [u2, va_up, e, e1, e2, e3] at h3 ⊢
      rw [h3]
      rcases (show m = 0 ∨ m = 1 ∨ m = 2 by omega) with rfl | rfl | rfl <;> simp [va_up, e]
  ·
    have h3 := hM.2.2.2.2.2 h hh m hm
    simp only [addT, u2, va_up] at h3 ⊢
    rcases (show m = 0 ∨ m = 1 ∨ m = 2 by omega) with rfl | rfl | rfl <;> simpa using h3
theorem isM_addL {F A : mmF} {B : BV} (w f c : Int32) (hM : isM F A 12 128 B) : isM (u2 F 123 16 (nI (B.1.2.2 + 1))) (u2 (u2 (u2 A 130 (3 * B.1.2.2) w) 130 (3 * B.1.2.2 + 1) f) 130 (3 * B.1.2.2 + 2) c) 12 128 (addL B w f c) := by
  refine ⟨by have h3 := hM.1; simp [u2, va_up, addL] at h3 ⊢; exact h3, by have h3 := hM.2.1; simp [u2, va_up, addL] at h3 ⊢; exact h3, by simp [u2, va_up, addL], fun h hh m hm => ?_, fun h hh m hm => ?_, fun h hh m hm => ?_⟩
  ·
    have h3 := hM.2.2.2.1 h hh m hm
    simp only [addL, u2, va_up] at h3 ⊢
    rcases (show m = 0 ∨ m = 1 ∨ m = 2 by omega) with rfl | rfl | rfl <;> simpa using h3
  ·
    have h3 := hM.2.2.2.2.1 h hh m hm
    simp only [addL, u2, va_up] at h3 ⊢
    rcases (show m = 0 ∨ m = 1 ∨ m = 2 by omega) with rfl | rfl | rfl <;> simpa using h3
  ·
    simp only [addL] at hh ⊢
    by_cases e : h = B.1.2.2
    · subst e
      rcases (show m = 0 ∨ m = 1 ∨ m = 2 by omega) with rfl | rfl | rfl <;> simp [u2, va_up]
    · have h3 := hM.2.2.2.2.2 h (by omega) m hm
      have e1 : ¬ 3 * h + m = 3 * B.1.2.2 := by omega
      have e2 : ¬ 3 * h + m = 3 * B.1.2.2 + 1 := by omega
      have e3 : ¬ 3 * h + m = 3 * B.1.2.2 + 2 := by omega
      simp [u2, va_up, e, e1, e2, e3] at h3 ⊢
      rw [h3]
      rcases (show m = 0 ∨ m = 1 ∨ m = 2 by omega) with rfl | rfl | rfl <;> simp [va_up, e]
