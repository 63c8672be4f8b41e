def mm_offl : List (List Nat) := [[1, 0, 0], [1, 2, 3, 4, 5, 6, 7, 8, 9, 0, 0, 0, 0, 0], [1, 0, 0, 0], [1, 2, 3, 0, 0], [1, 0, 0], [1, 2, 3, 0], [1, 8], [1, 2, 0, 0, 0, 0, 0], [1, 0], [1, 3, 6, 50, 54, 63, 80, 86, 0, 0, 0], [0, 1, 0, 0, 0, 2, 0, 3, 0, 4, 0, 0, 0, 5, 0, 6, 0, 7, 8, 9, 10, 11, 0, 12, 13, 0, 14, 15, 16, 0, 0, 17, 18, 0, 0, 0, 0, 0, 0, 19, 20]]
/-- where what a field refers to lies, from its object on (0: it isn't fixed, or no reference) -/
def mm_off (ci j : Nat) : Nat := (mm_offl.getD ci []).getD j 0
/-- the references stand as the constructors laid them (booth and draft of the class apart) -/
def mm_RL (R : mmR) : Prop := (∀ r j, mm_off (mm_K r) j ≠ 0 → R r j = some (r + mm_off (mm_K r) j)) ∧ ∀ r i, mm_K r = 13 → i < mm_len r → R r i = some (r + 1 + 3 * i)
theorem mm_K_lt {r : Nat} (h : mm_K r ≠ 99) : r < 144 := by
  rcases Nat.lt_or_ge r 144 with h1 | h1
  · exact h1
  · exact absurd (by unfold mm_K; rw [List.getD_eq_getElem?_getD, List.getElem?_eq_none (by exact h1)]; rfl) h
theorem mm_all (p : Nat → Bool) (h : (List.range 144).all p = true) {r : Nat} (hr : mm_K r ≠ 99) : p r = true := List.all_eq_true.mp h r (List.mem_range.mpr (mm_K_lt hr))
theorem st_f {a : Nat} (h : mm_K a = 7) : (mm_K (a + 1) = 11 ∧ mm_len (a + 1) = 5) ∧ (mm_K (a + 2) = 11 ∧ mm_len (a + 2) = 5) ∧ 3 ≤ a ∧ a + 2 < 103 := by
  have h1 := mm_all (fun a => decide (mm_K a = 7 → (mm_K (a + 1) = 11 ∧ mm_len (a + 1) = 5) ∧ (mm_K (a + 2) = 11 ∧ mm_len (a + 2) = 5) ∧ 3 ≤ a ∧ a + 2 < 103)) (by decide +kernel) (r := a) (by rw [h]; decide)
  exact of_decide_eq_true h1 h
theorem bo_f {b : Nat} (h : mm_K b = 1) : b = 103 ∨ b = 113 := by
  have h1 := mm_all (fun a => decide (mm_K a = 1 → a = 103 ∨ a = 113)) (by decide +kernel) (r := b) (by rw [h]; decide)
  exact of_decide_eq_true h1 h
/-- two stands are one, or apart -/
theorem st_two {a c : Nat} (h : mm_K a = 7) (h2 : mm_K c = 7) : a = c ∨ a + 3 ≤ c ∨ c + 3 ≤ a := by
  have h1 := mm_all (fun a => (List.range 144).all fun c => decide (mm_K a = 7 → mm_K c = 7 → a = c ∨ a + 3 ≤ c ∨ c + 3 ≤ a)) (by decide +kernel) (r := a) (by rw [h]; decide)
  exact of_decide_eq_true (List.all_eq_true.mp h1 c (List.mem_range.mpr (mm_K_lt (by rw [h2]; decide)))) h h2
theorem st_l0 {a : Nat} (h : mm_K a = 7) : a < 144 := by have := st_f h; omega
theorem st_l1 {a : Nat} (h : mm_K a = 7) : a + 1 < 144 := by have := st_f h; omega
theorem st_l2 {a : Nat} (h : mm_K a = 7) : a + 2 < 144 := by have := st_f h; omega
theorem st_i1 {a j : Nat} (h : mm_K a = 7) (hj : j < 5) : j < mm_len (a + 1) := by rw [(st_f h).1.2]; exact hj
theorem st_i2 {a j : Nat} (h : mm_K a = 7) (hj : j < 5) : j < mm_len (a + 2) := by rw [(st_f h).2.1.2]; exact hj
theorem bo_k1 {b : Nat} (h : mm_K b = 1) : mm_K (b + 1) = 11 := by rcases bo_f h with rfl | rfl <;> rfl
theorem bo_i1 {b j : Nat} (h : mm_K b = 1) (hj : j < 5) : j < mm_len (b + 1) := by rcases bo_f h with rfl | rfl <;> exact hj
theorem bo_l1 {b : Nat} (h : mm_K b = 1) : b + 1 < 144 := by rcases bo_f h with rfl | rfl <;> decide
theorem bo_k2 {b : Nat} (h : mm_K b = 1) : mm_K (b + 2) = 11 := by rcases bo_f h with rfl | rfl <;> rfl
theorem bo_i2 {b j : Nat} (h : mm_K b = 1) (hj : j < 5) : j < mm_len (b + 2) := by rcases bo_f h with rfl | rfl <;> exact hj
theorem bo_l2 {b : Nat} (h : mm_K b = 1) : b + 2 < 144 := by rcases bo_f h with rfl | rfl <;> decide
theorem bo_k3 {b : Nat} (h : mm_K b = 1) : mm_K (b + 3) = 11 := by rcases bo_f h with rfl | rfl <;> rfl
theorem bo_i3 {b j : Nat} (h : mm_K b = 1) (hj : j < 5) : j < mm_len (b + 3) := by rcases bo_f h with rfl | rfl <;> exact hj
theorem bo_l3 {b : Nat} (h : mm_K b = 1) : b + 3 < 144 := by rcases bo_f h with rfl | rfl <;> decide
theorem bo_k4 {b : Nat} (h : mm_K b = 1) : mm_K (b + 4) = 11 := by rcases bo_f h with rfl | rfl <;> rfl
theorem bo_i4 {b j : Nat} (h : mm_K b = 1) (hj : j < 4) : j < mm_len (b + 4) := by rcases bo_f h with rfl | rfl <;> exact hj
theorem bo_l4 {b : Nat} (h : mm_K b = 1) : b + 4 < 144 := by rcases bo_f h with rfl | rfl <;> decide
theorem bo_k5 {b : Nat} (h : mm_K b = 1) : mm_K (b + 5) = 11 := by rcases bo_f h with rfl | rfl <;> rfl
theorem bo_i5 {b j : Nat} (h : mm_K b = 1) (hj : j < 4) : j < mm_len (b + 5) := by rcases bo_f h with rfl | rfl <;> exact hj
theorem bo_l5 {b : Nat} (h : mm_K b = 1) : b + 5 < 144 := by rcases bo_f h with rfl | rfl <;> decide
theorem bo_k6 {b : Nat} (h : mm_K b = 1) : mm_K (b + 6) = 11 := by rcases bo_f h with rfl | rfl <;> rfl
theorem bo_i6 {b j : Nat} (h : mm_K b = 1) (hj : j < 4) : j < mm_len (b + 6) := by rcases bo_f h with rfl | rfl <;> exact hj
theorem bo_l6 {b : Nat} (h : mm_K b = 1) : b + 6 < 144 := by rcases bo_f h with rfl | rfl <;> decide
theorem bo_k7 {b : Nat} (h : mm_K b = 1) : mm_K (b + 7) = 11 := by rcases bo_f h with rfl | rfl <;> rfl
theorem bo_i7 {b j : Nat} (h : mm_K b = 1) (hj : j < 4) : j < mm_len (b + 7) := by rcases bo_f h with rfl | rfl <;> exact hj
theorem bo_l7 {b : Nat} (h : mm_K b = 1) : b + 7 < 144 := by rcases bo_f h with rfl | rfl <;> decide
theorem bo_k8 {b : Nat} (h : mm_K b = 1) : mm_K (b + 8) = 11 := by rcases bo_f h with rfl | rfl <;> rfl
theorem bo_i8 {b j : Nat} (h : mm_K b = 1) (hj : j < 4) : j < mm_len (b + 8) := by rcases bo_f h with rfl | rfl <;> exact hj
theorem bo_l8 {b : Nat} (h : mm_K b = 1) : b + 8 < 144 := by rcases bo_f h with rfl | rfl <;> decide
theorem bo_k9 {b : Nat} (h : mm_K b = 1) : mm_K (b + 9) = 11 := by rcases bo_f h with rfl | rfl <;> rfl
theorem bo_i9 {b j : Nat} (h : mm_K b = 1) (hj : j < 4) : j < mm_len (b + 9) := by rcases bo_f h with rfl | rfl <;> exact hj
theorem bo_l9 {b : Nat} (h : mm_K b = 1) : b + 9 < 144 := by rcases bo_f h with rfl | rfl <;> decide
theorem bo_l0 {b : Nat} (h : mm_K b = 1) : b < 144 := by rcases bo_f h with rfl | rfl <;> decide
theorem wp_getO {Y : mmY} {X : mmX} {N pc : Nat} {lv : List (Nat × Value)} {st : List Value} {F A : mmF} {R : mmR} {G : mmG} {idx ci j r q : Nat} (hF : mm_FL Y.1.cls idx ci j) (hR : mm_RL R) (ht : mm_ft ci j = 1) (hK : mm_K r = ci) (hr : r < N) (h0 : mm_off ci j ≠ 0) (hq : r + mm_off ci j = q) (hd : decode Y.2.1 pc = .ok (.getfield idx, 3)) (kk : WP Y X N (pc + 3) lv (.ref q :: st) F A R G) : WP Y X N pc lv (.ref r :: st) F A R G := by
  subst hK; subst hq
  exact wp_getR hF ht rfl hr (hR.1 r j h0) hd kk
theorem wp_aaldO {Y : mmY} {X : mmX} {N pc : Nat} {lv : List (Nat × Value)} {st : List Value} {F A : mmF} {R : mmR} {G : mmG} {r q : Nat} {i : Int32} (hR : mm_RL R) (j : Nat) (hi : i = nI j) (hK : mm_K r = 13) (hr : r < N) (hj : j < mm_len r) (hq : r + 1 + 3 * j = q) (hd : decode Y.2.1 pc = .ok (.aaload, 1)) (kk : WP Y X N (pc + 1) lv (.ref q :: st) F A R G) : WP Y X N pc lv (.int i :: .ref r :: st) F A R G := by
  subst hq
  exact wp_aald j hi hK hr hj (hR.2 r j hK hj) hd kk
theorem ix_add {x y : Int32} {a b : Nat} (h1 : x = nI a) (h2 : y = nI b) : x + y = nI (a + b) := by rw [h1, h2, nI_add]
theorem ix_mul {x y : Int32} {a b : Nat} (h1 : x = nI a) (h2 : y = nI b) : x * y = nI (a * b) := by rw [h1, h2, pk_mul]
theorem ix_sub {x y : Int32} {a b : Nat} (h1 : x = nI a) (h2 : y = nI b) (h : b ≤ a) : x - y = nI (a - b) := by rw [h1, h2, pk_sub h]
theorem ix_div {x y : Int32} {a b : Nat} (h1 : x = nI a) (h2 : y = nI b) (ha : a < 2 ^ 31) (h0 : 0 < b) (hb : b < 2 ^ 31) : x / y = nI (a / b) := by rw [h1, h2, pk_div ha h0 hb]
theorem ix_rem {x y : Int32} {a b : Nat} (h1 : x = nI a) (h2 : y = nI b) (ha : a < 2 ^ 31) (h0 : 0 < b) (hb : b < 2 ^ 31) : x - x / y * y = nI (a % b) := by rw [h1, h2, pk_rem ha h0 hb]
theorem ix_le {x y : Int32} {a b : Nat} (h1 : x = nI a) (h2 : y = nI b) (ha : a < 2 ^ 31) (hb : b < 2 ^ 31) : x ≤ y ↔ a ≤ b := by rw [h1, h2, nI_leI ha hb]
theorem ix_lt {x y : Int32} {a b : Nat} (h1 : x = nI a) (h2 : y = nI b) (ha : a < 2 ^ 31) (hb : b < 2 ^ 31) : x < y ↔ a < b := by rw [h1, h2, nI_ltI ha hb]
theorem ix_eq {x y : Int32} {a b : Nat} (h1 : x = nI a) (h2 : y = nI b) (ha : a < 2 ^ 31) (hb : b < 2 ^ 31) : x = y ↔ a = b := by rw [h1, h2, nI_eq ha hb]
theorem pP_ok {F A : mmF} {R : mmR} {G : mmG} {v e : Int32} (h : v = e) : pP e F A R G (some (.int v)) F A R G := ⟨by rw [h], rfl, rfl, rfl, rfl⟩
theorem pI_ok {Pi : Int32 → mmF → mmF → mmR → mmG → Prop} {F A : mmF} {R : mmR} {G : mmG} {v : Int32} (h : Pi v F A R G) : pI Pi (some (.int v)) F A R G := ⟨v, rfl, h⟩
theorem pV_ok {Pv : mmF → mmF → mmR → mmG → Prop} {F A : mmF} {R : mmR} {G : mmG} (h : Pv F A R G) : pV Pv none F A R G := ⟨rfl, h⟩
/-- the bit of x at the place y -/
def bt (x y : Int32) : Int32 := (x >>> (y &&& 31)) &&& 1
