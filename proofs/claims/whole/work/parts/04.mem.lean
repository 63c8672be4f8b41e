/-! THE MEMORY OF THE SYSTEM: every object and array has a ROLE, its number in the order of making; role r lies at b + r. -/
abbrev mmF : Type := Nat → Nat → Int32
abbrev mmR : Type := Nat → Nat → Option Nat
abbrev mmG : Type := Nat → Int64
abbrev mmP : Type := Option Value → mmF → mmF → mmR → mmG → Prop
abbrev mmY : Type := MethodName × ByteArray × Nat × Option FieldType
/-- kinds: 0 .. 10 the classes of vwCl, 11 int rows, 12 boolean rows, 13 rows of Stand -/
def mm_Kl : List Nat := [9, 8, 11, 7, 11, 11, 0, 13, 7, 11, 11, 7, 11, 11, 7, 11, 11, 7, 11, 11, 7, 11, 11, 7, 11, 11, 7, 11, 11, 7, 11, 11, 7, 11, 11, 7, 11, 11, 7, 11, 11, 7, 11, 11, 7, 11, 11, 7, 11, 11, 5, 11, 11, 11, 6, 13, 7, 11, 11, 7, 11, 11, 12, 4, 13, 7, 11, 11, 7, 11, 11, 7, 11, 11, 7, 11, 11, 7, 11, 11, 3, 11, 11, 7, 11, 11, 2, 13, 7, 11, 11, 7, 11, 11, 7, 11, 11, 7, 11, 11, 7, 11, 11, 1, 11, 11, 11, 11, 11, 11, 11, 11, 11, 1, 11, 11, 11, 11, 11, 11, 11, 11, 11, 10, 11, 11, 11, 11, 11, 11, 11, 11, 11, 11, 11, 11, 12, 11, 11, 11, 11, 11, 11, 11]
def mm_Ll : List Nat := [0, 0, 60, 0, 5, 5, 0, 14, 0, 5, 5, 0, 5, 5, 0, 5, 5, 0, 5, 5, 0, 5, 5, 0, 5, 5, 0, 5, 5, 0, 5, 5, 0, 5, 5, 0, 5, 5, 0, 5, 5, 0, 5, 5, 0, 5, 5, 0, 5, 5, 0, 6, 6, 6, 0, 2, 0, 5, 5, 0, 5, 5, 2, 0, 5, 0, 5, 5, 0, 5, 5, 0, 5, 5, 0, 5, 5, 0, 5, 5, 0, 36, 36, 0, 5, 5, 0, 5, 0, 5, 5, 0, 5, 5, 0, 5, 5, 0, 5, 5, 0, 5, 5, 0, 5, 5, 5, 4, 4, 4, 4, 4, 4, 0, 5, 5, 5, 4, 4, 4, 4, 4, 4, 0, 60, 15, 12, 12, 15, 12, 12, 15, 15, 15, 210, 30, 2, 6, 6, 6, 6, 6, 72, 16]
def mm_K (r : Nat) : Nat := mm_Kl.getD r 99
def mm_len (r : Nat) : Nat := mm_Ll.getD r 0
def mm_nfl : List Nat := [3, 14, 4, 5, 3, 4, 2, 7, 2, 11, 41]
def mm_nf (ci : Nat) : Nat := mm_nfl.getD ci 0
def mm_ftl : List (List Nat) := [[1, 0, 0], [1, 1, 1, 1, 1, 1, 1, 1, 1, 0, 0, 0, 0, 0], [1, 0, 0, 0], [1, 1, 1, 0, 0], [1, 0, 0], [1, 1, 1, 0], [1, 1], [1, 1, 0, 0, 0, 0, 0], [1, 0], [1, 1, 1, 1, 1, 1, 1, 1, 1, 1, 2], [0, 1, 0, 0, 0, 1, 0, 1, 0, 1, 0, 0, 0, 1, 0, 1, 0, 1, 1, 1, 1, 1, 0, 1, 1, 0, 1, 1, 1, 2, 0, 1, 1, 0, 0, 0, 0, 0, 0, 1, 1]]
/-- a field's type: 0 int, 1 reference, 2 long -/
def mm_ft (ci k : Nat) : Nat := (mm_ftl.getD ci []).getD k 0
def mm_sl : Nat → Nat
  | 0 => 0
  | n + 1 => mm_sl n + (if mm_K n < 11 then mm_nf (mm_K n) else mm_len n)
def mm_fv (b : Nat) (F : mmF) (R : mmR) (G : mmG) (r ci k : Nat) : Value := if mm_ft ci k = 0 then .int (F r k) else if mm_ft ci k = 1 then va_rf ((R r k).map (b + ·)) else .long (G r)
def mm_fs (b : Nat) (F : mmF) (R : mmR) (G : mmG) (r ci : Nat) : List Value := (List.range (mm_nf ci)).map (mm_fv b F R G r ci)
def mm_cell (cy : Nat → ClassId) (b : Nat) (F A : mmF) (R : mmR) (G : mmG) (r : Nat) : va_E :=
  if mm_K r < 11 then .inr (mm_K r, mm_fs b F R G r (mm_K r)) else if mm_K r = 11 then .inl (cy 0, mm_len r, .inl (A r)) else if mm_K r = 12 then .inl (cy 1, mm_len r, .inl (A r)) else .inl (cy 2, mm_len r, .inr (.inr (.inr (.inr (fun i => (R r i).map (b + ·))))))
def mm_wl (cy : Nat → ClassId) (b N : Nat) (F A : mmF) (R : mmR) (G : mmG) : va_W := (List.range N).map (fun r => (b + r, mm_cell cy b F A R G r))
def mm_tys (cy : Nat → ClassId) : List (ClassId × FieldType) := [(cy 0, .int), (cy 1, .boolean), (cy 2, .object "CoconutShies$Stand")]
def mm_v (b : Nat) (x : Nat → Nat) : Value → Value
  | .ref r => .ref (b + r)
  | .float u => .ref (x u.toNat)
  | v => v
def mm_lv (b : Nat) (x : Nat → Nat) (lv : List (Nat × Value)) : List (Nat × Value) := lv.map (fun q => (q.1, mm_v b x q.2))
theorem mm_wl_get {cy : Nat → ClassId} {b N : Nat} {F A : mmF} {R : mmR} {G : mmG} {r : Nat} (h : r < N) : (mm_wl cy b N F A R G)[r]? = some (b + r, mm_cell cy b F A R G r) := by
  simp [mm_wl, List.getElem?_map, List.getElem?_range h]
theorem mm_wl_lt {cy : Nat → ClassId} {b N : Nat} {F A : mmF} {R : mmR} {G : mmG} {r : Nat} {q : Nat × va_E} (h : (mm_wl cy b N F A R G)[r]? = some q) : r < N ∧ q = (b + r, mm_cell cy b F A R G r) := by
  have h1 := (List.getElem?_eq_some_iff.mp h).1
  simp [mm_wl] at h1
  refine ⟨h1, ?_⟩
  rw [mm_wl_get h1] at h
  exact (Option.some.inj h).symm
theorem mm_D {cy : Nat → ClassId} {b N : Nat} {F A : mmF} {R : mmR} {G : mmG} : va_D (fun q => b ≤ q) (mm_wl cy b N F A R G) := by
  refine ⟨fun i j p q hi hj hpq => ?_, fun k q hk => ?_⟩
  · obtain ⟨h1, rfl⟩ := mm_wl_lt hi
    obtain ⟨h2, rfl⟩ := mm_wl_lt hj
    have h3 : b + i = b + j := hpq
    omega
  · obtain ⟨h1, rfl⟩ := mm_wl_lt hk
    exact Nat.le_add_right _ _
theorem mm_set {cy : Nat → ClassId} {b N : Nat} {F A F' A' : mmF} {R R' : mmR} {G G' : mmG} {r : Nat} {e : va_E} (h : r < N) (he : e = mm_cell cy b F' A' R' G' r) (ho : ∀ i, i ≠ r → mm_cell cy b F' A' R' G' i = mm_cell cy b F A R G i) : (mm_wl cy b N F A R G).set r (b + r, e) = mm_wl cy b N F' A' R' G' := by
  subst he
  apply List.ext_getElem?
  intro i
  by_cases hi : i = r
  · subst hi
    rw [List.getElem?_set_self (by simp [mm_wl]; exact h), mm_wl_get h]
  · rw [List.getElem?_set_ne (Ne.symm hi)]
    by_cases hN : i < N
    · rw [mm_wl_get hN, mm_wl_get hN, ho i hi]
    · rw [List.getElem?_eq_none (by simp [mm_wl]; omega), List.getElem?_eq_none (by simp [mm_wl]; omega)]
theorem mm_fs_get {b : Nat} {F : mmF} {R : mmR} {G : mmG} {r ci k : Nat} (h : k < mm_nf ci) : (mm_fs b F R G r ci)[k]? = some (mm_fv b F R G r ci k) := by
  simp [mm_fs, List.getElem?_map, List.getElem?_range h]
theorem mm_fs_len {b : Nat} {F : mmF} {R : mmR} {G : mmG} {r ci : Nat} : (mm_fs b F R G r ci).length = mm_nf ci := by simp [mm_fs]
theorem mm_fs_set {b : Nat} {F F' : mmF} {R R' : mmR} {G G' : mmG} {r ci k : Nat} {v : Value} (h : k < mm_nf ci) (hv : mm_fv b F' R' G' r ci k = v) (ho : ∀ j, j ≠ k → mm_fv b F' R' G' r ci j = mm_fv b F R G r ci j) : (mm_fs b F R G r ci).set k v = mm_fs b F' R' G' r ci := by
  apply List.ext_getElem?
  intro i
  by_cases hi : i = k
  · subst hi
    rw [List.getElem?_set_self (by rw [mm_fs_len]; exact h), mm_fs_get h, hv]
  · rw [List.getElem?_set_ne (Ne.symm hi)]
    by_cases hN : i < mm_nf ci
    · rw [mm_fs_get hN, mm_fs_get hN, ho i hi]
    · rw [List.getElem?_eq_none (by rw [mm_fs_len]; omega), List.getElem?_eq_none (by rw [mm_fs_len]; omega)]
theorem mm_cell_o {cy : Nat → ClassId} {b : Nat} {F A : mmF} {R : mmR} {G : mmG} {r ci : Nat} (h : mm_K r = ci) (hc : ci < 11) : mm_cell cy b F A R G r = .inr (ci, mm_fs b F R G r ci) := by
  subst h; simp [mm_cell, hc]
theorem mm_cell_i {cy : Nat → ClassId} {b : Nat} {F A : mmF} {R : mmR} {G : mmG} {r : Nat} (h : mm_K r = 11) : mm_cell cy b F A R G r = .inl (cy 0, mm_len r, .inl (A r)) := by
  simp [mm_cell, h]
theorem mm_cell_z {cy : Nat → ClassId} {b : Nat} {F A : mmF} {R : mmR} {G : mmG} {r : Nat} (h : mm_K r = 12) : mm_cell cy b F A R G r = .inl (cy 1, mm_len r, .inl (A r)) := by
  simp [mm_cell, h]
theorem mm_cell_r {cy : Nat → ClassId} {b : Nat} {F A : mmF} {R : mmR} {G : mmG} {r : Nat} (h : mm_K r = 13) : mm_cell cy b F A R G r = .inl (cy 2, mm_len r, .inr (.inr (.inr (.inr (fun i => (R r i).map (b + ·)))))) := by
  simp [mm_cell, h]
/-- a cell is seen through its own role alone -/
theorem mm_cell_congr {cy : Nat → ClassId} {b : Nat} {F A F' A' : mmF} {R R' : mmR} {G G' : mmG} {r : Nat} (hF : F' r = F r) (hA : A' r = A r) (hR : R' r = R r) (hG : G' r = G r) : mm_cell cy b F' A' R' G' r = mm_cell cy b F A R G r := by
  have h1 : ∀ k, mm_fv b F' R' G' r (mm_K r) k = mm_fv b F R G r (mm_K r) k := fun k => by simp [mm_fv, hF, hR, hG]
  have h2 : mm_fs b F' R' G' r (mm_K r) = mm_fs b F R G r (mm_K r) := List.map_congr_left (fun k _ => h1 k)
  simp [mm_cell, h2, hA, hR]
theorem mm_v_cat {b : Nat} {x : Nat → Nat} : ∀ v : Value, (mm_v b x v).category = v.category := fun v => by cases v <;> rfl
def mm_hu (j : Nat) : Int32 := if j = 0 then 1 else if j = 1 then 100 else if j = 2 then 10000 else if j = 3 then 1000000 else 100000000
def mm_or (j : Nat) : Int32 := if j = 0 then 1 else if j = 1 then 1 else if j = 2 then 2 else if j = 3 then 6 else 24
/-- the two static tables, which nobody writes: x 1 is HUNDREDS, x 2 is ORDERS (x 0: the script) -/
def mm_SF (b : Nat) (x : Nat → Nat) (U : State) (H : Heap) : Prop :=
  (va_Z "CoconutShies" "HUNDREDS" "[I" (.ref (x 1)) (fun q => b ≤ q) U H ∧ va_T .int (x 1) 5 (fun j => .int (mm_hu j)) (fun q => b ≤ q) U H) ∧ va_Z "CoconutShies" "ORDERS" "[I" (.ref (x 2)) (fun q => b ≤ q) U H ∧ va_T .int (x 2) 5 (fun j => .int (mm_or j)) (fun q => b ≤ q) U H
theorem mm_SF.moved {b : Nat} {x : Nat → Nat} {u U : State} {H : Heap} (hvm : u.vm.Alike U.vm) (h : mm_SF b x u H) : mm_SF b x U H := ⟨⟨h.1.1.moved hvm, h.1.2.moved hvm⟩, h.2.1.moved hvm, h.2.2.moved hvm⟩
theorem mm_SF.kept {b : Nat} {x : Nat → Nat} {U : State} {H H1 : Heap} (h : mm_SF b x U H) (hq : ∀ a : Nat, a < H.size → ¬ b ≤ a → H1[a]? = H[a]?) : mm_SF b x U H1 := ⟨⟨h.1.1.kept hq, h.1.2.kept hq⟩, h.2.1.kept hq, h.2.2.kept hq⟩
def mm_nest : List (String × Nat × MethodName) := [("CoconutShies", 9, ⟨"CoconutShies$Text", "<init>", "()V"⟩), ("CoconutShies", 18, ⟨"CoconutShies$Stand", "<init>", "()V"⟩), ("CoconutShies", 25, ⟨"CoconutShies$Acts", "<init>", "()V"⟩), ("CoconutShies$Acts", 9, ⟨"CoconutShies", "newStands", "(I)[LCoconutShies$Stand;"⟩), ("CoconutShies", 32, ⟨"CoconutShies$Sightings", "<init>", "()V"⟩), ("CoconutShies", 39, ⟨"CoconutShies$Slots", "<init>", "()V"⟩), ("CoconutShies$Slots", 9, ⟨"CoconutShies", "newStands", "(I)[LCoconutShies$Stand;"⟩), ("CoconutShies", 46, ⟨"CoconutShies$Seeker", "<init>", "()V"⟩), ("CoconutShies$Seeker", 9, ⟨"CoconutShies", "newStands", "(I)[LCoconutShies$Stand;"⟩), ("CoconutShies", 53, ⟨"CoconutShies$Parties", "<init>", "()V"⟩), ("CoconutShies$Parties", 20, ⟨"CoconutShies$Stand", "<init>", "()V"⟩), ("CoconutShies", 60, ⟨"CoconutShies$Chances", "<init>", "()V"⟩), ("CoconutShies$Chances", 9, ⟨"CoconutShies", "newStands", "(I)[LCoconutShies$Stand;"⟩), ("CoconutShies", 67, ⟨"CoconutShies$Booth", "<init>", "()V"⟩), ("CoconutShies$Stand", 63, ⟨"CoconutShies", "bit", "(II)I"⟩), ("CoconutShies$Booth", 91, ⟨"CoconutShies", "isPlace", "(I)Z"⟩), ("CoconutShies$Seeker", 63, ⟨"CoconutShies", "hundreds", "(I)I"⟩), ("CoconutShies$Seeker", 79, ⟨"CoconutShies", "bit", "(II)I"⟩)]
def mm_NW (U : State) : Prop := (∀ q ∈ mm_nest, va_Nw (.methodLinkNest q.1 q.2.1 q.2.2 "CoconutShies") U) ∧ va_AO "CoconutShies$Stand" U
theorem mm_NW.warm {s U : State} (hW : s.WarmedH U.vm) (h : mm_NW s) : mm_NW U := ⟨fun q hq => (h.1 q hq).warmM hW, h.2.moved hW.alike⟩
theorem mm_NW.same {u U : State} (hv : u.vm = U.vm) (h : mm_NW u) : mm_NW U := ⟨fun q hq => (h.1 q hq).same rfl hv, h.2.moved (by rw [hv]; exact Vm.Alike.refl _)⟩
def mm_B (D : va_G) (cy : Nat → ClassId) (b : Nat) (x : Nat → Nat) (N : Nat) (F A : mmF) (R : mmR) (G : mmG) (U : State) : Prop := U.heap.size = b + N ∧ va_P D vwCl (mm_wl cy b N F A R G) U.heap ∧ va_K D vwCl (mm_tys cy) U ∧ mm_NW U ∧ mm_SF b x U U.heap
def mm_Q (D : va_G) (cy : Nat → ClassId) (b : Nat) (x : Nat → Nat) (N : Nat) (post : mmP) : Array Value → State → Outcome → State → Prop := fun _ st oc t => (∃ (v : Option Value) (F A : mmF) (R : mmR) (G : mmG), oc = .returned (v.map (mm_v b x)) ∧ post v F A R G ∧ va_P D vwCl (mm_wl cy b N F A R G) t.heap) ∧ va_F (fun q => b ≤ q) st t
abbrev mm_rm (k N N' : Nat) : Room := { frames := k, cells := N' - N, slots := mm_sl N' - mm_sl N, locals := 64 * k }
/-- a method's CONTRACT: with the arguments av (references by their roles), the N roles holding F A R G: it returns, 'post' holds of the answer and of what the N' roles hold then; k levels of calls are left -/
def Meets (l : Launch) (Y : mmY) (k N N' : Nat) (av : List Value) (F A : mmF) (R : mmR) (G : mmG) (post : mmP) : Prop :=
  ∀ (D : va_G) (cy : Nat → ClassId) (b : Nat) (x : Nat → Nat), Met l Y.1 (.code Y.1 Y.2.1 Y.2.2.1 Y.2.2.2 :: mm_big) (mm_rm k N N') (va_Pc (av.map (mm_v b x)) (mm_B D cy b x N F A R G)) (mm_Q D cy b x N' post) (N' - N) (mm_sl N' - mm_sl N) (fun q => b ≤ q)
abbrev mmX : Type := (Program × Launch × Env × Room × State) × (MethodId × Array Value × List Frame × Method × Code) × (va_G × (Nat → ClassId) × Nat × (Nat → Nat)) × Nat × Nat × Nat × (State → Prop)
/-- what stands while a method runs -/
def mm_ok (Y : mmY) : mmX → Prop := fun ⟨⟨p, _, _, Rm, s⟩, ⟨m, args, _, meth, c⟩, ⟨D, cy, b, x⟩, k, N0, N1, _⟩ =>
  p.tables.exec = Jvm.exec ∧ c.code = Y.2.1 ∧ c.maxLocals = Y.2.2.1 ∧ meth.sig.returnType = Y.2.2.2 ∧ meth.locks = false ∧ s.vm.findClass Y.1.cls = some m.cls ∧ (∀ w ∈ mm_big, w.before args s = true) ∧ va_K D vwCl (mm_tys cy) s ∧ mm_NW s ∧ mm_SF b x s s.heap ∧ meth.name = Y.1.name ∧ s.heap.size = b + N0 ∧ (k ≤ Rm.frames ∧ 64 * k ≤ Rm.locals ∧ N1 - N0 ≤ Rm.cells ∧ mm_sl N1 - mm_sl N0 ≤ Rm.slots)
/-- the machine, at pc, comes to what is wanted -/
def WP (Y : mmY) (X : mmX) (N pc : Nat) (lv : List (Nat × Value)) (st : List Value) (F A : mmF) (R : mmR) (G : mmG) : Prop := match X with
  | ⟨⟨p, l, e, Rm, s⟩, ⟨m, args, below, meth, c⟩, ⟨D, cy, b, x⟩, k, N0, N1, Q⟩ => mm_ok Y ⟨⟨p, l, e, Rm, s⟩, ⟨m, args, below, meth, c⟩, ⟨D, cy, b, x⟩, k, N0, N1, Q⟩ → N0 ≤ N → ∀ (H : Heap) (locs : List Loc) (ls : Array Slot), lv_has ls Y.2.2.1 (mm_lv b x lv) → va_P D vwCl (mm_wl cy b N F A R G) H → va_S (fun q => b ≤ q) s.heap H locs →
    W p l e Rm s m args below meth c H locs (N - N0) (mm_sl N - mm_sl N0) Q (F0 m pc ls (st.map (mm_v b x)))
/-- a contract's own run: its launch, levels, roles at start and end, and its post -/
def mm_C (l : Launch) (k N0 N1 : Nat) (post : mmP) : mmX → Prop := fun ⟨⟨_, l', _, _, s⟩, ⟨_, args, below, _, _⟩, ⟨D, cy, b, x⟩, k', N0', N1', Q⟩ => l' = l ∧ k' = k ∧ N0' = N0 ∧ N1' = N1 ∧ Q = MQ below (mm_Q D cy b x N1 post) args s (N1 - N0) (mm_sl N1 - mm_sl N0) (fun q => b ≤ q)
theorem mm_start {l : Launch} {Y : mmY} {k N N' : Nat} {av : List Value} {F A : mmF} {R : mmR} {G : mmG} {post : mmP} (hy : plainName Y.1.cls = true) (hn : (lg_sl (av.map (mm_v 0 id))).length ≤ Y.2.2.1)
    (h : ∀ X : mmX, mm_C l k N N' post X → WP Y X N 0 (lv_args 0 av) [] F A R G) : Meets l Y k N N' av F A R G post := by
  intro D cy b x
  refine Met.ofW (cc := Y.2.1) (maxL := Y.2.2.1) (ret := Y.2.2.2) hy rfl ?_
  intro p e s m args below meth c s₁ B hml hv
  obtain ⟨rfl, hsz, hP, hK, hNW, hSF⟩ := hv
  have hts := atoms_spec (ws := .code Y.1 Y.2.1 Y.2.2.1 Y.2.2.2 :: mm_big) B.pre
  have hargs : ∀ (vs : List Value) (i : Nat), lv_args i (vs.map (mm_v b x)) = mm_lv b x (lv_args i vs) := by
    intro vs
    induction vs with
    | nil => intro i; rfl
    | cons v vs ih => intro i; simp only [List.map_cons, lv_args, mm_lv, mm_v_cat]; rw [ih]; rfl
  have hsl : ∀ (b' : Nat) (x' : Nat → Nat) (vs : List Value), (lg_sl (vs.map (mm_v b' x'))).length = (lg_sl (vs.map (mm_v 0 id))).length := by
    intro b' x' vs
    simp only [lg_sl, List.length_flatMap, List.map_map]
    congr 1
    apply List.map_congr_left
    intro v _
    simp only [Function.comp, mm_v_cat]
    split <;> rfl
  have hl := lv_entry (av.map (mm_v b x)) (n := Y.2.2.1) (by rw [hsl]; exact hn)
  rw [lg_entry_eq]
  rw [hargs] at hl
  have K := h ⟨⟨p, l, e, mm_rm k N N', s⟩, ⟨m, (av.map (mm_v b x)).toArray, below, meth, c⟩, ⟨D, cy, b, x⟩, k, N, N', _⟩ ⟨rfl, rfl, rfl, rfl, rfl⟩
  have K2 := K ⟨B.exec, B.bytes, hml, B.returns, B.notSynchronized, findClass_of_methodNamed B.named, fun w hw => hts w (List.mem_cons_of_mem _ hw), hK, hNW, hSF, (name_of_methodNamed B.named B.method).1, hsz, Nat.le_refl _, Nat.le_refl _, Nat.le_refl _, Nat.le_refl _⟩ (Nat.le_refl _) s.heap [] _ hl hP va_S.rf
  rw [Nat.sub_self, Nat.sub_self] at K2
  exact K2
section MMR
variable {Y : mmY} {X : mmX} {N pc : Nat} {lv : List (Nat × Value)} {st : List Value} {F A : mmF} {R : mmR} {G : mmG}
theorem wp_iconst {n : Int} {v : Int32} (hd : decode Y.2.1 pc = .ok (.iconst n, 1)) (hv : Int32.ofInt n = v) (kk : WP Y X N (pc + 1) lv (.int v :: st) F A R G) : WP Y X N pc lv (st) F A R G := by
  obtain ⟨⟨p, l, e, Rm, s⟩, ⟨m, args, below, meth, c⟩, ⟨D, cy, b, xx⟩, k, N0, N1, Q⟩ := X
  intro ok hN0 H locs ls hl hP hS
  exact lv_iconst ok.1 ok.2.1 hd hv (kk ok hN0 H locs ls hl hP hS)
theorem wp_bipush {n : Int} {v : Int32} (hd : decode Y.2.1 pc = .ok (.bipush n, 2)) (hv : (Int8.ofInt n).toInt32 = v) (kk : WP Y X N (pc + 2) lv (.int v :: st) F A R G) : WP Y X N pc lv (st) F A R G := by
  obtain ⟨⟨p, l, e, Rm, s⟩, ⟨m, args, below, meth, c⟩, ⟨D, cy, b, xx⟩, k, N0, N1, Q⟩ := X
  intro ok hN0 H locs ls hl hP hS
  exact lv_bipush ok.1 ok.2.1 hd hv (kk ok hN0 H locs ls hl hP hS)
theorem wp_sipush {n : Int} {v : Int32} (hd : decode Y.2.1 pc = .ok (.sipush n, 3)) (hv : (Int16.ofInt n).toInt32 = v) (kk : WP Y X N (pc + 3) lv (.int v :: st) F A R G) : WP Y X N pc lv (st) F A R G := by
  obtain ⟨⟨p, l, e, Rm, s⟩, ⟨m, args, below, meth, c⟩, ⟨D, cy, b, xx⟩, k, N0, N1, Q⟩ := X
  intro ok hN0 H locs ls hl hP hS
  exact lv_sipush ok.1 ok.2.1 hd hv (kk ok hN0 H locs ls hl hP hS)
theorem wp_lconst {n : Fin 2} {v : Int64} (hd : decode Y.2.1 pc = .ok (.lconst n, 1)) (hv : Int64.ofNat (n : Nat) = v) (kk : WP Y X N (pc + 1) lv (.long v :: st) F A R G) : WP Y X N pc lv (st) F A R G := by
  obtain ⟨⟨p, l, e, Rm, s⟩, ⟨m, args, below, meth, c⟩, ⟨D, cy, b, xx⟩, k, N0, N1, Q⟩ := X
  intro ok hN0 H locs ls hl hP hS
  exact lv_lconst ok.1 ok.2.1 hd hv (kk ok hN0 H locs ls hl hP hS)
theorem mm_at {b : Nat} {x : Nat → Nat} {ls : Array Slot} {nL : Nat} {lv : List (Nat × Value)} (h : lv_has ls nL (mm_lv b x lv)) (j : Nat) {i : Nat} {v : Value} (hk : lv[j]? = some (i, v)) : ls[i]? = some (.val (mm_v b x v)) := lv_at h j (by simp [mm_lv, hk])
theorem wp_iload_n {q : Fin 4} {i : Nat} {v : Int32} (hd : decode Y.2.1 pc = .ok (.iload_n q, 1)) (hi : (q : Nat) = i) (j : Nat) (hj : lv[j]? = some (i, .int v)) (kk : WP Y X N (pc + 1) lv (.int v :: st) F A R G) : WP Y X N pc lv st F A R G := by
  obtain ⟨⟨p, l, e, Rm, s⟩, ⟨m, args, below, meth, c⟩, ⟨D, cy, b, xx⟩, k, N0, N1, Q⟩ := X
  intro ok hN0 H locs ls hl hP hS
  exact lv_iload_n ok.1 ok.2.1 hd hi (mm_at hl j hj) (kk ok hN0 H locs ls hl hP hS)
theorem wp_iload {i : Nat} {v : Int32} (hd : decode Y.2.1 pc = .ok (.iload i, 2)) (j : Nat) (hj : lv[j]? = some (i, .int v)) (kk : WP Y X N (pc + 2) lv (.int v :: st) F A R G) : WP Y X N pc lv st F A R G := by
  obtain ⟨⟨p, l, e, Rm, s⟩, ⟨m, args, below, meth, c⟩, ⟨D, cy, b, xx⟩, k, N0, N1, Q⟩ := X
  intro ok hN0 H locs ls hl hP hS
  exact lv_iload ok.1 ok.2.1 hd (mm_at hl j hj) (kk ok hN0 H locs ls hl hP hS)
theorem wp_aload_n {q : Fin 4} {i : Nat} {v : Nat} (hd : decode Y.2.1 pc = .ok (.aload_n q, 1)) (hi : (q : Nat) = i) (j : Nat) (hj : lv[j]? = some (i, .ref v)) (kk : WP Y X N (pc + 1) lv (.ref v :: st) F A R G) : WP Y X N pc lv st F A R G := by
  obtain ⟨⟨p, l, e, Rm, s⟩, ⟨m, args, below, meth, c⟩, ⟨D, cy, b, xx⟩, k, N0, N1, Q⟩ := X
  intro ok hN0 H locs ls hl hP hS
  exact lv_aload_n ok.1 ok.2.1 hd hi (mm_at hl j hj) (kk ok hN0 H locs ls hl hP hS)
theorem wp_aload {i : Nat} {v : Nat} (hd : decode Y.2.1 pc = .ok (.aload i, 2)) (j : Nat) (hj : lv[j]? = some (i, .ref v)) (kk : WP Y X N (pc + 2) lv (.ref v :: st) F A R G) : WP Y X N pc lv st F A R G := by
  obtain ⟨⟨p, l, e, Rm, s⟩, ⟨m, args, below, meth, c⟩, ⟨D, cy, b, xx⟩, k, N0, N1, Q⟩ := X
  intro ok hN0 H locs ls hl hP hS
  exact lv_aload ok.1 ok.2.1 hd (mm_at hl j hj) (kk ok hN0 H locs ls hl hP hS)
theorem wp_lload_n {q : Fin 4} {i : Nat} {v : Int64} (hd : decode Y.2.1 pc = .ok (.lload_n q, 1)) (hi : (q : Nat) = i) (j : Nat) (hj : lv[j]? = some (i, .long v)) (kk : WP Y X N (pc + 1) lv (.long v :: st) F A R G) : WP Y X N pc lv st F A R G := by
  obtain ⟨⟨p, l, e, Rm, s⟩, ⟨m, args, below, meth, c⟩, ⟨D, cy, b, xx⟩, k, N0, N1, Q⟩ := X
  intro ok hN0 H locs ls hl hP hS
  exact lv_lload_n ok.1 ok.2.1 hd hi (mm_at hl j hj) (kk ok hN0 H locs ls hl hP hS)
theorem wp_lload {i : Nat} {v : Int64} (hd : decode Y.2.1 pc = .ok (.lload i, 2)) (j : Nat) (hj : lv[j]? = some (i, .long v)) (kk : WP Y X N (pc + 2) lv (.long v :: st) F A R G) : WP Y X N pc lv st F A R G := by
  obtain ⟨⟨p, l, e, Rm, s⟩, ⟨m, args, below, meth, c⟩, ⟨D, cy, b, xx⟩, k, N0, N1, Q⟩ := X
  intro ok hN0 H locs ls hl hP hS
  exact lv_lload ok.1 ok.2.1 hd (mm_at hl j hj) (kk ok hN0 H locs ls hl hP hS)
theorem wp_xload_n {q : Fin 4} {i : Nat} {v : UInt32} (hd : decode Y.2.1 pc = .ok (.aload_n q, 1)) (hi : (q : Nat) = i) (j : Nat) (hj : lv[j]? = some (i, .float v)) (kk : WP Y X N (pc + 1) lv (.float v :: st) F A R G) : WP Y X N pc lv st F A R G := by
  obtain ⟨⟨p, l, e, Rm, s⟩, ⟨m, args, below, meth, c⟩, ⟨D, cy, b, xx⟩, k, N0, N1, Q⟩ := X
  intro ok hN0 H locs ls hl hP hS
  exact lv_aload_n ok.1 ok.2.1 hd hi (mm_at hl j hj) (kk ok hN0 H locs ls hl hP hS)
theorem mm_pick {b : Nat} {x : Nat → Nat} {ls : Array Slot} {nL i : Nat} {v : Value} {lv lv' : List (Nat × Value)} (h : lv_has ls nL ((i, mm_v b x v) :: (mm_lv b x lv).filter (fun q => !(q.1 == i) && !(q.1 + 1 == i && q.2.category == 2)))) (hp : ∀ q ∈ lv', q = (i, v) ∨ (q ∈ lv ∧ (!(q.1 == i) && !(q.1 + 1 == i && q.2.category == 2)) = true)) : lv_has ls nL (mm_lv b x lv') := by
  refine ⟨h.1, h.2.1, fun q hq => h.2.2 q ?_⟩
  obtain ⟨q0, h0, rfl⟩ := List.mem_map.mp hq
  rcases hp q0 h0 with rfl | ⟨h1, h2⟩
  · exact List.mem_cons_self
  · exact List.mem_cons_of_mem _ (List.mem_filter.mpr ⟨List.mem_map.mpr ⟨q0, h1, rfl⟩, by simpa [mm_v_cat] using h2⟩)
theorem mm_pick2 {b : Nat} {x : Nat → Nat} {ls : Array Slot} {nL i : Nat} {v : Value} {lv lv' : List (Nat × Value)} (h : lv_has ls nL ((i, mm_v b x v) :: (mm_lv b x lv).filter (fun q => !(q.1 == i) && (!(q.1 == i + 1) && !(q.1 + 1 == i && q.2.category == 2))))) (hp : ∀ q ∈ lv', q = (i, v) ∨ (q ∈ lv ∧ (!(q.1 == i) && (!(q.1 == i + 1) && !(q.1 + 1 == i && q.2.category == 2))) = true)) : lv_has ls nL (mm_lv b x lv') := by
  refine ⟨h.1, h.2.1, fun q hq => h.2.2 q ?_⟩
  obtain ⟨q0, h0, rfl⟩ := List.mem_map.mp hq
  rcases hp q0 h0 with rfl | ⟨h1, h2⟩
  · exact List.mem_cons_self
  · exact List.mem_cons_of_mem _ (List.mem_filter.mpr ⟨List.mem_map.mpr ⟨q0, h1, rfl⟩, by simpa [mm_v_cat] using h2⟩)
/-- the locals behind a store: place 0 is the new one, place j + 1 the old one's place j -/
def mm_st (lv : List (Nat × Value)) (i : Nat) (v : Value) (ks : List Nat) : List (Nat × Value) := ks.filterMap (fun k => ((i, v) :: lv)[k]?)
theorem mm_st_ok {lv lv' : List (Nat × Value)} {i : Nat} {v : Value} (ks : List Nat) (h : mm_st lv i v ks = lv') (hd : (lv'.all fun q => (q.1 == i) || (!(q.1 + 1 == i && q.2.category == 2))) = true) (hu : (ks.all fun k => k == 0 || (match lv[k - 1]? with | some q => !(q.1 == i) | none => true)) = true) : ∀ q ∈ lv', q = (i, v) ∨ (q ∈ lv ∧ (!(q.1 == i) && !(q.1 + 1 == i && q.2.category == 2)) = true) := by
  intro q hq
  have hq2 := hq
  rw [← h] at hq
  obtain ⟨k, hk, hkq⟩ := List.mem_filterMap.mp hq
  cases k with
  | zero => exact Or.inl (by simpa using hkq.symm)
  | succ k =>
    have h1 : lv[k]? = some q := by simpa using hkq
    have h2 := List.all_eq_true.mp hu _ hk
    have h3 := List.all_eq_true.mp hd _ hq2
    simp [h1] at h2
    right
    refine ⟨List.mem_of_getElem? h1, ?_⟩
    simp [h2] at h3 ⊢
    exact h3
theorem mm_st_ok2 {lv lv' : List (Nat × Value)} {i : Nat} {v : Value} (ks : List Nat) (h : mm_st lv i v ks = lv') (hd : (lv'.all fun q => (q.1 == i) || (!(q.1 + 1 == i && q.2.category == 2))) = true) (hu : (ks.all fun k => k == 0 || (match lv[k - 1]? with | some q => !(q.1 == i) && !(q.1 == i + 1) | none => true)) = true) : ∀ q ∈ lv', q = (i, v) ∨ (q ∈ lv ∧ (!(q.1 == i) && (!(q.1 == i + 1) && !(q.1 + 1 == i && q.2.category == 2))) = true) := by
  intro q hq
  have hq2 := hq
  rw [← h] at hq
  obtain ⟨k, hk, hkq⟩ := List.mem_filterMap.mp hq
  cases k with
  | zero => exact Or.inl (by simpa using hkq.symm)
  | succ k =>
    have h1 : lv[k]? = some q := by simpa using hkq
    have h2 := List.all_eq_true.mp hu _ hk
    have h3 := List.all_eq_true.mp hd _ hq2
    simp [h1] at h2
    right
    refine ⟨List.mem_of_getElem? h1, ?_⟩
    simp [h2] at h3 ⊢
    exact h3
theorem wp_istore_n {q : Fin 4} {i : Nat} {v : Int32} {lv' : List (Nat × Value)} (ks : List Nat) (hn : i < Y.2.2.1) (h : mm_st lv i (.int v) ks = lv') (h1 : (lv'.all fun q => (q.1 == i) || (!(q.1 + 1 == i && q.2.category == 2))) = true) (h2 : (ks.all fun k => k == 0 || (match lv[k - 1]? with | some q => !(q.1 == i) | none => true)) = true) (hd : decode Y.2.1 pc = .ok (.istore_n q, 1)) (hi : (q : Nat) = i) (kk : WP Y X N (pc + 1) lv' st F A R G) : WP Y X N pc lv (.int v :: st) F A R G := by
  obtain ⟨⟨p, l, e, Rm, s⟩, ⟨m, args, below, meth, c⟩, ⟨D, cy, b, xx⟩, k, N0, N1, Q⟩ := X
  intro ok hN0 H locs ls hl hP hS
  exact lv_istore_n ok.1 ok.2.1 hd hi hl hn rfl (fun ls' hl' => kk ok hN0 H locs ls' (mm_pick hl' (mm_st_ok ks h h1 h2)) hP hS)
theorem wp_istore {i : Nat} {v : Int32} {lv' : List (Nat × Value)} (ks : List Nat) (hn : i < Y.2.2.1) (h : mm_st lv i (.int v) ks = lv') (h1 : (lv'.all fun q => (q.1 == i) || (!(q.1 + 1 == i && q.2.category == 2))) = true) (h2 : (ks.all fun k => k == 0 || (match lv[k - 1]? with | some q => !(q.1 == i) | none => true)) = true) (hd : decode Y.2.1 pc = .ok (.istore i, 2)) (kk : WP Y X N (pc + 2) lv' st F A R G) : WP Y X N pc lv (.int v :: st) F A R G := by
  obtain ⟨⟨p, l, e, Rm, s⟩, ⟨m, args, below, meth, c⟩, ⟨D, cy, b, xx⟩, k, N0, N1, Q⟩ := X
  intro ok hN0 H locs ls hl hP hS
  exact lv_istore ok.1 ok.2.1 hd hl hn rfl (fun ls' hl' => kk ok hN0 H locs ls' (mm_pick hl' (mm_st_ok ks h h1 h2)) hP hS)
theorem wp_astore_n {q : Fin 4} {i : Nat} {v : Nat} {lv' : List (Nat × Value)} (ks : List Nat) (hn : i < Y.2.2.1) (h : mm_st lv i (.ref v) ks = lv') (h1 : (lv'.all fun q => (q.1 == i) || (!(q.1 + 1 == i && q.2.category == 2))) = true) (h2 : (ks.all fun k => k == 0 || (match lv[k - 1]? with | some q => !(q.1 == i) | none => true)) = true) (hd : decode Y.2.1 pc = .ok (.astore_n q, 1)) (hi : (q : Nat) = i) (kk : WP Y X N (pc + 1) lv' st F A R G) : WP Y X N pc lv (.ref v :: st) F A R G := by
  obtain ⟨⟨p, l, e, Rm, s⟩, ⟨m, args, below, meth, c⟩, ⟨D, cy, b, xx⟩, k, N0, N1, Q⟩ := X
  intro ok hN0 H locs ls hl hP hS
  exact lv_astore_n ok.1 ok.2.1 hd hi hl hn rfl (fun ls' hl' => kk ok hN0 H locs ls' (mm_pick hl' (mm_st_ok ks h h1 h2)) hP hS)
theorem wp_astore {i : Nat} {v : Nat} {lv' : List (Nat × Value)} (ks : List Nat) (hn : i < Y.2.2.1) (h : mm_st lv i (.ref v) ks = lv') (h1 : (lv'.all fun q => (q.1 == i) || (!(q.1 + 1 == i && q.2.category == 2))) = true) (h2 : (ks.all fun k => k == 0 || (match lv[k - 1]? with | some q => !(q.1 == i) | none => true)) = true) (hd : decode Y.2.1 pc = .ok (.astore i, 2)) (kk : WP Y X N (pc + 2) lv' st F A R G) : WP Y X N pc lv (.ref v :: st) F A R G := by
  obtain ⟨⟨p, l, e, Rm, s⟩, ⟨m, args, below, meth, c⟩, ⟨D, cy, b, xx⟩, k, N0, N1, Q⟩ := X
  intro ok hN0 H locs ls hl hP hS
  exact lv_astore ok.1 ok.2.1 hd hl hn rfl (fun ls' hl' => kk ok hN0 H locs ls' (mm_pick hl' (mm_st_ok ks h h1 h2)) hP hS)
theorem wp_lstore_n {q : Fin 4} {i : Nat} {v : Int64} {lv' : List (Nat × Value)} (ks : List Nat) (hn : i + 1 < Y.2.2.1) (h : mm_st lv i (.long v) ks = lv') (h1 : (lv'.all fun q => (q.1 == i) || (!(q.1 + 1 == i && q.2.category == 2))) = true) (h2 : (ks.all fun k => k == 0 || (match lv[k - 1]? with | some q => !(q.1 == i) && !(q.1 == i + 1) | none => true)) = true) (hd : decode Y.2.1 pc = .ok (.lstore_n q, 1)) (hi : (q : Nat) = i) (kk : WP Y X N (pc + 1) lv' st F A R G) : WP Y X N pc lv (.long v :: st) F A R G := by
  obtain ⟨⟨p, l, e, Rm, s⟩, ⟨m, args, below, meth, c⟩, ⟨D, cy, b, xx⟩, k, N0, N1, Q⟩ := X
  intro ok hN0 H locs ls hl hP hS
  exact lv_lstore_n ok.1 ok.2.1 hd hi hl hn rfl (fun ls' hl' => kk ok hN0 H locs ls' (mm_pick2 hl' (mm_st_ok2 ks h h1 h2)) hP hS)
theorem wp_lstore {i : Nat} {v : Int64} {lv' : List (Nat × Value)} (ks : List Nat) (hn : i + 1 < Y.2.2.1) (h : mm_st lv i (.long v) ks = lv') (h1 : (lv'.all fun q => (q.1 == i) || (!(q.1 + 1 == i && q.2.category == 2))) = true) (h2 : (ks.all fun k => k == 0 || (match lv[k - 1]? with | some q => !(q.1 == i) && !(q.1 == i + 1) | none => true)) = true) (hd : decode Y.2.1 pc = .ok (.lstore i, 2)) (kk : WP Y X N (pc + 2) lv' st F A R G) : WP Y X N pc lv (.long v :: st) F A R G := by
  obtain ⟨⟨p, l, e, Rm, s⟩, ⟨m, args, below, meth, c⟩, ⟨D, cy, b, xx⟩, k, N0, N1, Q⟩ := X
  intro ok hN0 H locs ls hl hP hS
  exact lv_lstore ok.1 ok.2.1 hd hl hn rfl (fun ls' hl' => kk ok hN0 H locs ls' (mm_pick2 hl' (mm_st_ok2 ks h h1 h2)) hP hS)
theorem wp_iinc {i : Nat} {n : Int} {x v : Int32} {lv' : List (Nat × Value)} (j : Nat) (hj : lv[j]? = some (i, .int x)) (hv : x + Int32.ofInt n = v) (ks : List Nat) (hn : i < Y.2.2.1) (h : mm_st lv i (.int v) ks = lv') (h1 : (lv'.all fun q => (q.1 == i) || (!(q.1 + 1 == i && q.2.category == 2))) = true) (h2 : (ks.all fun k => k == 0 || (match lv[k - 1]? with | some q => !(q.1 == i) | none => true)) = true) (hd : decode Y.2.1 pc = .ok (.iinc i n, 3)) (kk : WP Y X N (pc + 3) lv' st F A R G) : WP Y X N pc lv st F A R G := by
  obtain ⟨⟨p, l, e, Rm, s⟩, ⟨m, args, below, meth, c⟩, ⟨D, cy, b, xx⟩, k, N0, N1, Q⟩ := X
  intro ok hN0 H locs ls hl hP hS
  exact lv_iinc (k := j) ok.1 ok.2.1 hd hl (by simp [mm_lv, hj, mm_v]) hv hn rfl (fun ls' hl' => kk ok hN0 H locs ls' (mm_pick (v := .int v) hl' (mm_st_ok ks h h1 h2)) hP hS)
theorem wp_iadd {x y : Int32} (hd : decode Y.2.1 pc = .ok (.iadd, 1)) (kk : WP Y X N (pc + 1) lv (.int (x + y) :: st) F A R G) : WP Y X N pc lv (.int y :: .int x :: st) F A R G := by
  obtain ⟨⟨p, l, e, Rm, s⟩, ⟨m, args, below, meth, c⟩, ⟨D, cy, b, xx⟩, k, N0, N1, Q⟩ := X
  intro ok hN0 H locs ls hl hP hS
  exact lv_iadd ok.1 ok.2.1 hd (kk ok hN0 H locs ls hl hP hS)
theorem wp_isub {x y : Int32} (hd : decode Y.2.1 pc = .ok (.isub, 1)) (kk : WP Y X N (pc + 1) lv (.int (x - y) :: st) F A R G) : WP Y X N pc lv (.int y :: .int x :: st) F A R G := by
  obtain ⟨⟨p, l, e, Rm, s⟩, ⟨m, args, below, meth, c⟩, ⟨D, cy, b, xx⟩, k, N0, N1, Q⟩ := X
  intro ok hN0 H locs ls hl hP hS
  exact lv_isub ok.1 ok.2.1 hd (kk ok hN0 H locs ls hl hP hS)
theorem wp_imul {x y : Int32} (hd : decode Y.2.1 pc = .ok (.imul, 1)) (kk : WP Y X N (pc + 1) lv (.int (x * y) :: st) F A R G) : WP Y X N pc lv (.int y :: .int x :: st) F A R G := by
  obtain ⟨⟨p, l, e, Rm, s⟩, ⟨m, args, below, meth, c⟩, ⟨D, cy, b, xx⟩, k, N0, N1, Q⟩ := X
  intro ok hN0 H locs ls hl hP hS
  exact lv_imul ok.1 ok.2.1 hd (kk ok hN0 H locs ls hl hP hS)
theorem wp_iand {x y : Int32} (hd : decode Y.2.1 pc = .ok (.iand, 1)) (kk : WP Y X N (pc + 1) lv (.int (x &&& y) :: st) F A R G) : WP Y X N pc lv (.int y :: .int x :: st) F A R G := by
  obtain ⟨⟨p, l, e, Rm, s⟩, ⟨m, args, below, meth, c⟩, ⟨D, cy, b, xx⟩, k, N0, N1, Q⟩ := X
  intro ok hN0 H locs ls hl hP hS
  exact lv_iand ok.1 ok.2.1 hd (kk ok hN0 H locs ls hl hP hS)
theorem wp_ior {x y : Int32} (hd : decode Y.2.1 pc = .ok (.ior, 1)) (kk : WP Y X N (pc + 1) lv (.int (x ||| y) :: st) F A R G) : WP Y X N pc lv (.int y :: .int x :: st) F A R G := by
  obtain ⟨⟨p, l, e, Rm, s⟩, ⟨m, args, below, meth, c⟩, ⟨D, cy, b, xx⟩, k, N0, N1, Q⟩ := X
  intro ok hN0 H locs ls hl hP hS
  exact lv_ior ok.1 ok.2.1 hd (kk ok hN0 H locs ls hl hP hS)
theorem wp_ixor {x y : Int32} (hd : decode Y.2.1 pc = .ok (.ixor, 1)) (kk : WP Y X N (pc + 1) lv (.int (x ^^^ y) :: st) F A R G) : WP Y X N pc lv (.int y :: .int x :: st) F A R G := by
  obtain ⟨⟨p, l, e, Rm, s⟩, ⟨m, args, below, meth, c⟩, ⟨D, cy, b, xx⟩, k, N0, N1, Q⟩ := X
  intro ok hN0 H locs ls hl hP hS
  exact lv_ixor ok.1 ok.2.1 hd (kk ok hN0 H locs ls hl hP hS)
theorem wp_ishl {x y : Int32} (hd : decode Y.2.1 pc = .ok (.ishl, 1)) (kk : WP Y X N (pc + 1) lv (.int (x <<< (y &&& 31)) :: st) F A R G) : WP Y X N pc lv (.int y :: .int x :: st) F A R G := by
  obtain ⟨⟨p, l, e, Rm, s⟩, ⟨m, args, below, meth, c⟩, ⟨D, cy, b, xx⟩, k, N0, N1, Q⟩ := X
  intro ok hN0 H locs ls hl hP hS
  exact lv_ishl ok.1 ok.2.1 hd (kk ok hN0 H locs ls hl hP hS)
theorem wp_ishr {x y : Int32} (hd : decode Y.2.1 pc = .ok (.ishr, 1)) (kk : WP Y X N (pc + 1) lv (.int (x >>> (y &&& 31)) :: st) F A R G) : WP Y X N pc lv (.int y :: .int x :: st) F A R G := by
  obtain ⟨⟨p, l, e, Rm, s⟩, ⟨m, args, below, meth, c⟩, ⟨D, cy, b, xx⟩, k, N0, N1, Q⟩ := X
  intro ok hN0 H locs ls hl hP hS
  exact lv_ishr ok.1 ok.2.1 hd (kk ok hN0 H locs ls hl hP hS)
theorem wp_idiv {x y : Int32} (hd : decode Y.2.1 pc = .ok (.idiv, 1)) (hne : ¬ y = 0) (kk : WP Y X N (pc + 1) lv (.int (x / y) :: st) F A R G) : WP Y X N pc lv (.int y :: .int x :: st) F A R G := by
  obtain ⟨⟨p, l, e, Rm, s⟩, ⟨m, args, below, meth, c⟩, ⟨D, cy, b, xx⟩, k, N0, N1, Q⟩ := X
  intro ok hN0 H locs ls hl hP hS
  exact lv_idiv ok.1 ok.2.1 hd hne (kk ok hN0 H locs ls hl hP hS)
theorem wp_irem {x y : Int32} (hd : decode Y.2.1 pc = .ok (.irem, 1)) (hne : ¬ y = 0) (kk : WP Y X N (pc + 1) lv (.int (x - x / y * y) :: st) F A R G) : WP Y X N pc lv (.int y :: .int x :: st) F A R G := by
  obtain ⟨⟨p, l, e, Rm, s⟩, ⟨m, args, below, meth, c⟩, ⟨D, cy, b, xx⟩, k, N0, N1, Q⟩ := X
  intro ok hN0 H locs ls hl hP hS
  exact lv_irem ok.1 ok.2.1 hd hne (kk ok hN0 H locs ls hl hP hS)
theorem wp_ineg {x : Int32} (hd : decode Y.2.1 pc = .ok (.ineg, 1)) (kk : WP Y X N (pc + 1) lv (.int (-x) :: st) F A R G) : WP Y X N pc lv (.int x :: st) F A R G := by
  obtain ⟨⟨p, l, e, Rm, s⟩, ⟨m, args, below, meth, c⟩, ⟨D, cy, b, xx⟩, k, N0, N1, Q⟩ := X
  intro ok hN0 H locs ls hl hP hS
  exact lv_ineg ok.1 ok.2.1 hd (kk ok hN0 H locs ls hl hP hS)
theorem wp_ladd {x y : Int64} (hd : decode Y.2.1 pc = .ok (.ladd, 1)) (kk : WP Y X N (pc + 1) lv (.long (x + y) :: st) F A R G) : WP Y X N pc lv (.long y :: .long x :: st) F A R G := by
  obtain ⟨⟨p, l, e, Rm, s⟩, ⟨m, args, below, meth, c⟩, ⟨D, cy, b, xx⟩, k, N0, N1, Q⟩ := X
  intro ok hN0 H locs ls hl hP hS
  exact lv_ladd ok.1 ok.2.1 hd (kk ok hN0 H locs ls hl hP hS)
theorem wp_lmul {x y : Int64} (hd : decode Y.2.1 pc = .ok (.lmul, 1)) (kk : WP Y X N (pc + 1) lv (.long (x * y) :: st) F A R G) : WP Y X N pc lv (.long y :: .long x :: st) F A R G := by
  obtain ⟨⟨p, l, e, Rm, s⟩, ⟨m, args, below, meth, c⟩, ⟨D, cy, b, xx⟩, k, N0, N1, Q⟩ := X
  intro ok hN0 H locs ls hl hP hS
  exact lv_lmul ok.1 ok.2.1 hd (kk ok hN0 H locs ls hl hP hS)
theorem wp_land {x y : Int64} (hd : decode Y.2.1 pc = .ok (.land, 1)) (kk : WP Y X N (pc + 1) lv (.long (x &&& y) :: st) F A R G) : WP Y X N pc lv (.long y :: .long x :: st) F A R G := by
  obtain ⟨⟨p, l, e, Rm, s⟩, ⟨m, args, below, meth, c⟩, ⟨D, cy, b, xx⟩, k, N0, N1, Q⟩ := X
  intro ok hN0 H locs ls hl hP hS
  exact lv_land ok.1 ok.2.1 hd (kk ok hN0 H locs ls hl hP hS)
theorem wp_lor {x y : Int64} (hd : decode Y.2.1 pc = .ok (.lor, 1)) (kk : WP Y X N (pc + 1) lv (.long (x ||| y) :: st) F A R G) : WP Y X N pc lv (.long y :: .long x :: st) F A R G := by
  obtain ⟨⟨p, l, e, Rm, s⟩, ⟨m, args, below, meth, c⟩, ⟨D, cy, b, xx⟩, k, N0, N1, Q⟩ := X
  intro ok hN0 H locs ls hl hP hS
  exact lv_lor ok.1 ok.2.1 hd (kk ok hN0 H locs ls hl hP hS)
theorem wp_lrem {x y : Int64} (hd : decode Y.2.1 pc = .ok (.lrem, 1)) (hne : ¬ y = 0) (kk : WP Y X N (pc + 1) lv (.long (x - x / y * y) :: st) F A R G) : WP Y X N pc lv (.long y :: .long x :: st) F A R G := by
  obtain ⟨⟨p, l, e, Rm, s⟩, ⟨m, args, below, meth, c⟩, ⟨D, cy, b, xx⟩, k, N0, N1, Q⟩ := X
  intro ok hN0 H locs ls hl hP hS
  exact lv_lrem ok.1 ok.2.1 hd hne (kk ok hN0 H locs ls hl hP hS)
theorem wp_i2l {x : Int32} (hd : decode Y.2.1 pc = .ok (.i2l, 1)) (kk : WP Y X N (pc + 1) lv (.long x.toInt64 :: st) F A R G) : WP Y X N pc lv (.int x :: st) F A R G := by
  obtain ⟨⟨p, l, e, Rm, s⟩, ⟨m, args, below, meth, c⟩, ⟨D, cy, b, xx⟩, k, N0, N1, Q⟩ := X
  intro ok hN0 H locs ls hl hP hS
  exact lv_i2l ok.1 ok.2.1 hd rfl (kk ok hN0 H locs ls hl hP hS)
theorem wp_l2i {x : Int64} (hd : decode Y.2.1 pc = .ok (.l2i, 1)) (kk : WP Y X N (pc + 1) lv (.int x.toInt32 :: st) F A R G) : WP Y X N pc lv (.long x :: st) F A R G := by
  obtain ⟨⟨p, l, e, Rm, s⟩, ⟨m, args, below, meth, c⟩, ⟨D, cy, b, xx⟩, k, N0, N1, Q⟩ := X
  intro ok hN0 H locs ls hl hP hS
  exact lv_l2i ok.1 ok.2.1 hd rfl (kk ok hN0 H locs ls hl hP hS)
theorem wp_lushr {x : Int64} {y : Int32} (hd : decode Y.2.1 pc = .ok (.lushr, 1)) (kk : WP Y X N (pc + 1) lv (.long (x.toUInt64 >>> (y.toInt64.toUInt64 &&& Int64.toUInt64 63)).toInt64 :: st) F A R G) : WP Y X N pc lv (.int y :: .long x :: st) F A R G := by
  obtain ⟨⟨p, l, e, Rm, s⟩, ⟨m, args, below, meth, c⟩, ⟨D, cy, b, xx⟩, k, N0, N1, Q⟩ := X
  intro ok hN0 H locs ls hl hP hS
  exact lv_lushr ok.1 ok.2.1 hd rfl (kk ok hN0 H locs ls hl hP hS)
theorem wp_lshl {x : Int64} {y : Int32} (hd : decode Y.2.1 pc = .ok (.lshl, 1)) (kk : WP Y X N (pc + 1) lv (.long (x <<< (y.toInt64 &&& 63)) :: st) F A R G) : WP Y X N pc lv (.int y :: .long x :: st) F A R G := by
  obtain ⟨⟨p, l, e, Rm, s⟩, ⟨m, args, below, meth, c⟩, ⟨D, cy, b, xx⟩, k, N0, N1, Q⟩ := X
  intro ok hN0 H locs ls hl hP hS
  exact lv_lshl ok.1 ok.2.1 hd rfl (kk ok hN0 H locs ls hl hP hS)
theorem wp_lcmp {x y : Int64} (hd : decode Y.2.1 pc = .ok (.lcmp, 1)) (kk : WP Y X N (pc + 1) lv (.int (lg_cmp x y) :: st) F A R G) : WP Y X N pc lv (.long y :: .long x :: st) F A R G := by
  obtain ⟨⟨p, l, e, Rm, s⟩, ⟨m, args, below, meth, c⟩, ⟨D, cy, b, xx⟩, k, N0, N1, Q⟩ := X
  intro ok hN0 H locs ls hl hP hS
  exact W.lcmp ok.1 ok.2.1 hd (kk ok hN0 H locs ls hl hP hS)
theorem wp_dup {v : Value} (hd : decode Y.2.1 pc = .ok (.dup, 1)) (hv : v.category = 1) (kk : WP Y X N (pc + 1) lv (v :: v :: st) F A R G) : WP Y X N pc lv (v :: st) F A R G := by
  obtain ⟨⟨p, l, e, Rm, s⟩, ⟨m, args, below, meth, c⟩, ⟨D, cy, b, xx⟩, k, N0, N1, Q⟩ := X
  intro ok hN0 H locs ls hl hP hS
  exact lv_dup ok.1 ok.2.1 hd ((mm_v_cat v).trans hv) (kk ok hN0 H locs ls hl hP hS)
theorem wp_pop {v : Value} (hd : decode Y.2.1 pc = .ok (.pop, 1)) (hv : v.category = 1) (kk : WP Y X N (pc + 1) lv (st) F A R G) : WP Y X N pc lv (v :: st) F A R G := by
  obtain ⟨⟨p, l, e, Rm, s⟩, ⟨m, args, below, meth, c⟩, ⟨D, cy, b, xx⟩, k, N0, N1, Q⟩ := X
  intro ok hN0 H locs ls hl hP hS
  exact lv_pop ok.1 ok.2.1 hd ((mm_v_cat v).trans hv) (kk ok hN0 H locs ls hl hP hS)
theorem wp_dup2 {v u : Value} (hd : decode Y.2.1 pc = .ok (.dup2, 1)) (hv : v.category = 1) (hu : u.category = 1) (kk : WP Y X N (pc + 1) lv (v :: u :: v :: u :: st) F A R G) : WP Y X N pc lv (v :: u :: st) F A R G := by
  obtain ⟨⟨p, l, e, Rm, s⟩, ⟨m, args, below, meth, c⟩, ⟨D, cy, b, xx⟩, k, N0, N1, Q⟩ := X
  intro ok hN0 H locs ls hl hP hS
  exact lv_dup2_11 ok.1 ok.2.1 hd ((mm_v_cat v).trans hv) ((mm_v_cat u).trans hu) (kk ok hN0 H locs ls hl hP hS)
theorem wp_if_eq {x : Int32} {off : Int} (tgt : Nat) (hd : decode Y.2.1 pc = .ok (.ifCond .eq off, 3)) (ht : (pc : Int) + off = (tgt : Int)) (kt : x = 0 → WP Y X N tgt lv st F A R G) (kf : ¬ x = 0 → WP Y X N (pc + 3) lv st F A R G) : WP Y X N pc lv (.int x :: st) F A R G := by
  obtain ⟨⟨p, l, e, Rm, s⟩, ⟨m, args, below, meth, c⟩, ⟨D, cy, b, xx⟩, k, N0, N1, Q⟩ := X
  intro ok hN0 H locs ls hl hP hS
  exact lv_if_eq ok.1 ok.2.1 hd ht (fun h => kt h ok hN0 H locs ls hl hP hS) (fun h => kf h ok hN0 H locs ls hl hP hS)
theorem wp_icmp_eq {x y : Int32} {off : Int} (tgt : Nat) (hd : decode Y.2.1 pc = .ok (.if_icmp .eq off, 3)) (ht : (pc : Int) + off = (tgt : Int)) (kt : x = y → WP Y X N tgt lv st F A R G) (kf : ¬ x = y → WP Y X N (pc + 3) lv st F A R G) : WP Y X N pc lv (.int y :: .int x :: st) F A R G := by
  obtain ⟨⟨p, l, e, Rm, s⟩, ⟨m, args, below, meth, c⟩, ⟨D, cy, b, xx⟩, k, N0, N1, Q⟩ := X
  intro ok hN0 H locs ls hl hP hS
  exact lv_icmp_eq ok.1 ok.2.1 hd ht (fun h => kt h ok hN0 H locs ls hl hP hS) (fun h => kf h ok hN0 H locs ls hl hP hS)
theorem wp_if_ne {x : Int32} {off : Int} (tgt : Nat) (hd : decode Y.2.1 pc = .ok (.ifCond .ne off, 3)) (ht : (pc : Int) + off = (tgt : Int)) (kt : ¬ x = 0 → WP Y X N tgt lv st F A R G) (kf : x = 0 → WP Y X N (pc + 3) lv st F A R G) : WP Y X N pc lv (.int x :: st) F A R G := by
  obtain ⟨⟨p, l, e, Rm, s⟩, ⟨m, args, below, meth, c⟩, ⟨D, cy, b, xx⟩, k, N0, N1, Q⟩ := X
  intro ok hN0 H locs ls hl hP hS
  exact lv_if_ne ok.1 ok.2.1 hd ht (fun h => kt h ok hN0 H locs ls hl hP hS) (fun h => kf h ok hN0 H locs ls hl hP hS)
theorem wp_icmp_ne {x y : Int32} {off : Int} (tgt : Nat) (hd : decode Y.2.1 pc = .ok (.if_icmp .ne off, 3)) (ht : (pc : Int) + off = (tgt : Int)) (kt : ¬ x = y → WP Y X N tgt lv st F A R G) (kf : x = y → WP Y X N (pc + 3) lv st F A R G) : WP Y X N pc lv (.int y :: .int x :: st) F A R G := by
  obtain ⟨⟨p, l, e, Rm, s⟩, ⟨m, args, below, meth, c⟩, ⟨D, cy, b, xx⟩, k, N0, N1, Q⟩ := X
  intro ok hN0 H locs ls hl hP hS
  exact lv_icmp_ne ok.1 ok.2.1 hd ht (fun h => kt h ok hN0 H locs ls hl hP hS) (fun h => kf h ok hN0 H locs ls hl hP hS)
theorem wp_if_lt {x : Int32} {off : Int} (tgt : Nat) (hd : decode Y.2.1 pc = .ok (.ifCond .lt off, 3)) (ht : (pc : Int) + off = (tgt : Int)) (kt : x < 0 → WP Y X N tgt lv st F A R G) (kf : ¬ x < 0 → WP Y X N (pc + 3) lv st F A R G) : WP Y X N pc lv (.int x :: st) F A R G := by
  obtain ⟨⟨p, l, e, Rm, s⟩, ⟨m, args, below, meth, c⟩, ⟨D, cy, b, xx⟩, k, N0, N1, Q⟩ := X
  intro ok hN0 H locs ls hl hP hS
  exact lv_if_lt ok.1 ok.2.1 hd ht (fun h => kt h ok hN0 H locs ls hl hP hS) (fun h => kf h ok hN0 H locs ls hl hP hS)
theorem wp_icmp_lt {x y : Int32} {off : Int} (tgt : Nat) (hd : decode Y.2.1 pc = .ok (.if_icmp .lt off, 3)) (ht : (pc : Int) + off = (tgt : Int)) (kt : x < y → WP Y X N tgt lv st F A R G) (kf : ¬ x < y → WP Y X N (pc + 3) lv st F A R G) : WP Y X N pc lv (.int y :: .int x :: st) F A R G := by
  obtain ⟨⟨p, l, e, Rm, s⟩, ⟨m, args, below, meth, c⟩, ⟨D, cy, b, xx⟩, k, N0, N1, Q⟩ := X
  intro ok hN0 H locs ls hl hP hS
  exact lv_icmp_lt ok.1 ok.2.1 hd ht (fun h => kt h ok hN0 H locs ls hl hP hS) (fun h => kf h ok hN0 H locs ls hl hP hS)
theorem wp_if_ge {x : Int32} {off : Int} (tgt : Nat) (hd : decode Y.2.1 pc = .ok (.ifCond .ge off, 3)) (ht : (pc : Int) + off = (tgt : Int)) (kt : 0 ≤ x → WP Y X N tgt lv st F A R G) (kf : ¬ 0 ≤ x → WP Y X N (pc + 3) lv st F A R G) : WP Y X N pc lv (.int x :: st) F A R G := by
  obtain ⟨⟨p, l, e, Rm, s⟩, ⟨m, args, below, meth, c⟩, ⟨D, cy, b, xx⟩, k, N0, N1, Q⟩ := X
  intro ok hN0 H locs ls hl hP hS
  exact lv_if_ge ok.1 ok.2.1 hd ht (fun h => kt h ok hN0 H locs ls hl hP hS) (fun h => kf h ok hN0 H locs ls hl hP hS)
theorem wp_icmp_ge {x y : Int32} {off : Int} (tgt : Nat) (hd : decode Y.2.1 pc = .ok (.if_icmp .ge off, 3)) (ht : (pc : Int) + off = (tgt : Int)) (kt : y ≤ x → WP Y X N tgt lv st F A R G) (kf : ¬ y ≤ x → WP Y X N (pc + 3) lv st F A R G) : WP Y X N pc lv (.int y :: .int x :: st) F A R G := by
  obtain ⟨⟨p, l, e, Rm, s⟩, ⟨m, args, below, meth, c⟩, ⟨D, cy, b, xx⟩, k, N0, N1, Q⟩ := X
  intro ok hN0 H locs ls hl hP hS
  exact lv_icmp_ge ok.1 ok.2.1 hd ht (fun h => kt h ok hN0 H locs ls hl hP hS) (fun h => kf h ok hN0 H locs ls hl hP hS)
theorem wp_if_gt {x : Int32} {off : Int} (tgt : Nat) (hd : decode Y.2.1 pc = .ok (.ifCond .gt off, 3)) (ht : (pc : Int) + off = (tgt : Int)) (kt : 0 < x → WP Y X N tgt lv st F A R G) (kf : ¬ 0 < x → WP Y X N (pc + 3) lv st F A R G) : WP Y X N pc lv (.int x :: st) F A R G := by
  obtain ⟨⟨p, l, e, Rm, s⟩, ⟨m, args, below, meth, c⟩, ⟨D, cy, b, xx⟩, k, N0, N1, Q⟩ := X
  intro ok hN0 H locs ls hl hP hS
  exact lv_if_gt ok.1 ok.2.1 hd ht (fun h => kt h ok hN0 H locs ls hl hP hS) (fun h => kf h ok hN0 H locs ls hl hP hS)
theorem wp_icmp_gt {x y : Int32} {off : Int} (tgt : Nat) (hd : decode Y.2.1 pc = .ok (.if_icmp .gt off, 3)) (ht : (pc : Int) + off = (tgt : Int)) (kt : y < x → WP Y X N tgt lv st F A R G) (kf : ¬ y < x → WP Y X N (pc + 3) lv st F A R G) : WP Y X N pc lv (.int y :: .int x :: st) F A R G := by
  obtain ⟨⟨p, l, e, Rm, s⟩, ⟨m, args, below, meth, c⟩, ⟨D, cy, b, xx⟩, k, N0, N1, Q⟩ := X
  intro ok hN0 H locs ls hl hP hS
  exact lv_icmp_gt ok.1 ok.2.1 hd ht (fun h => kt h ok hN0 H locs ls hl hP hS) (fun h => kf h ok hN0 H locs ls hl hP hS)
theorem wp_if_le {x : Int32} {off : Int} (tgt : Nat) (hd : decode Y.2.1 pc = .ok (.ifCond .le off, 3)) (ht : (pc : Int) + off = (tgt : Int)) (kt : x ≤ 0 → WP Y X N tgt lv st F A R G) (kf : ¬ x ≤ 0 → WP Y X N (pc + 3) lv st F A R G) : WP Y X N pc lv (.int x :: st) F A R G := by
  obtain ⟨⟨p, l, e, Rm, s⟩, ⟨m, args, below, meth, c⟩, ⟨D, cy, b, xx⟩, k, N0, N1, Q⟩ := X
  intro ok hN0 H locs ls hl hP hS
  exact lv_if_le ok.1 ok.2.1 hd ht (fun h => kt h ok hN0 H locs ls hl hP hS) (fun h => kf h ok hN0 H locs ls hl hP hS)
theorem wp_icmp_le {x y : Int32} {off : Int} (tgt : Nat) (hd : decode Y.2.1 pc = .ok (.if_icmp .le off, 3)) (ht : (pc : Int) + off = (tgt : Int)) (kt : x ≤ y → WP Y X N tgt lv st F A R G) (kf : ¬ x ≤ y → WP Y X N (pc + 3) lv st F A R G) : WP Y X N pc lv (.int y :: .int x :: st) F A R G := by
  obtain ⟨⟨p, l, e, Rm, s⟩, ⟨m, args, below, meth, c⟩, ⟨D, cy, b, xx⟩, k, N0, N1, Q⟩ := X
  intro ok hN0 H locs ls hl hP hS
  exact lv_icmp_le ok.1 ok.2.1 hd ht (fun h => kt h ok hN0 H locs ls hl hP hS) (fun h => kf h ok hN0 H locs ls hl hP hS)
theorem wp_goto {off : Int} (tgt : Nat) (hd : decode Y.2.1 pc = .ok (.goto off, 3)) (ht : (pc : Int) + off = (tgt : Int)) (kk : WP Y X N tgt lv st F A R G) : WP Y X N pc lv st F A R G := by
  obtain ⟨⟨p, l, e, Rm, s⟩, ⟨m, args, below, meth, c⟩, ⟨D, cy, b, xx⟩, k, N0, N1, Q⟩ := X
  intro ok hN0 H locs ls hl hP hS
  exact lv_goto ok.1 ok.2.1 hd ht (kk ok hN0 H locs ls hl hP hS)
theorem wp_tableOut {x : Int32} {d lo hi : Int} {offs : Array Int} {len : Nat} (tgt : Nat) (hd : decode Y.2.1 pc = .ok (.tableswitch d lo hi offs, len)) (h : x.toInt < lo ∨ hi < x.toInt) (ht : (pc : Int) + d = (tgt : Int)) (kk : WP Y X N tgt lv st F A R G) : WP Y X N pc lv (.int x :: st) F A R G := by
  obtain ⟨⟨p, l, e, Rm, s⟩, ⟨m, args, below, meth, c⟩, ⟨D, cy, b, xx⟩, k, N0, N1, Q⟩ := X
  intro ok hN0 H locs ls hl hP hS
  exact lv_tableOut ok.1 ok.2.1 hd h ht (kk ok hN0 H locs ls hl hP hS)
theorem wp_tableIn {x : Int32} {d lo hi off : Int} {offs : Array Int} {len : Nat} (tgt : Nat) (hd : decode Y.2.1 pc = .ok (.tableswitch d lo hi offs, len)) (h1 : ¬ x.toInt < lo) (h2 : ¬ hi < x.toInt) (ho : offs[(x.toInt - lo).toNat]? = some off) (ht : (pc : Int) + off = (tgt : Int)) (kk : WP Y X N tgt lv st F A R G) : WP Y X N pc lv (.int x :: st) F A R G := by
  obtain ⟨⟨p, l, e, Rm, s⟩, ⟨m, args, below, meth, c⟩, ⟨D, cy, b, xx⟩, k, N0, N1, Q⟩ := X
  intro ok hN0 H locs ls hl hP hS
  exact lv_tableIn ok.1 ok.2.1 hd h1 h2 ho ht (kk ok hN0 H locs ls hl hP hS)
theorem wp_lookup {x : Int32} {d off : Int} {ps : Array (Int × Int)} {len : Nat} (tgt : Nat) (hd : decode Y.2.1 pc = .ok (.lookupswitch d ps, len)) (hp : (ps.toList.zip (ps.toList.drop 1)).all (fun (a, next) => a.1 < next.1) = true) (ho : Op.lookupswitch.offset ps.toList d x.toInt = off) (ht : (pc : Int) + off = (tgt : Int)) (kk : WP Y X N tgt lv st F A R G) : WP Y X N pc lv (.int x :: st) F A R G := by
  obtain ⟨⟨p, l, e, Rm, s⟩, ⟨m, args, below, meth, c⟩, ⟨D, cy, b, xx⟩, k, N0, N1, Q⟩ := X
  intro ok hN0 H locs ls hl hP hS
  exact lv_lookup ok.1 ok.2.1 hd hp ho ht (kk ok hN0 H locs ls hl hP hS)
theorem wp_ldc2 {i : Nat} {v : Int64} (hw : Cond.constantLong Y.1.cls i v ∈ mm_big) (hd : decode Y.2.1 pc = .ok (.ldc2_w i, 3)) (kk : WP Y X N (pc + 3) lv (.long v :: st) F A R G) : WP Y X N pc lv st F A R G := by
  obtain ⟨⟨p, l, e, Rm, s⟩, ⟨m, args, below, meth, c⟩, ⟨D, cy, b, xx⟩, k, N0, N1, Q⟩ := X
  intro ok hN0 H locs ls hl hP hS
  obtain ⟨o1, o2, o3, o4, o5, o6, o7, o8⟩ := id ok
  exact lv_ldc2 o1 o2 o6 (o7 _ hw) hd (kk ok hN0 H locs ls hl hP hS)
theorem wp_ldc {i : Nat} {v : Int32} (hw : Cond.constant Y.1.cls i v ∈ mm_big) (hd : decode Y.2.1 pc = .ok (.ldc i, 2)) (kk : WP Y X N (pc + 2) lv (.int v :: st) F A R G) : WP Y X N pc lv st F A R G := by
  obtain ⟨⟨p, l, e, Rm, s⟩, ⟨m, args, below, meth, c⟩, ⟨D, cy, b, xx⟩, k, N0, N1, Q⟩ := X
  intro ok hN0 H locs ls hl hP hS
  obtain ⟨o1, o2, o3, o4, o5, o6, o7, o8⟩ := id ok
  exact lv_ldc o1 o2 o6 (o7 _ hw) hd (kk ok hN0 H locs ls hl hP hS)
/-- other words for the same state -/
theorem wp_eq {st' : List Value} {F' A' : mmF} {R' : mmR} {G' : mmG} (h1 : st = st') (h2 : F = F') (h3 : A = A') (kk : WP Y X N pc lv st' F' A' R G) : WP Y X N pc lv st F A R G := by
  subst h1; subst h2; subst h3; exact kk
theorem wp_top {x x' : Int32} (h : x = x') (kk : WP Y X N pc lv (.int x' :: st) F A R G) : WP Y X N pc lv (.int x :: st) F A R G := by
  subst h; exact kk
theorem wp_lv {lv' : List (Nat × Value)} (ks : List Nat) (h : lv_pick lv ks = lv') (kk : WP Y X N pc lv' st F A R G) : WP Y X N pc lv st F A R G := by
  obtain ⟨⟨p, l, e, Rm, s⟩, ⟨m, args, below, meth, c⟩, ⟨D, cy, b, xx⟩, k, N0, N1, Q⟩ := X
  intro ok hN0 H locs ls hl hP hS
  refine kk ok hN0 H locs ls ⟨hl.1, hl.2.1, fun q hq => hl.2.2 q ?_⟩ hP hS
  subst h
  obtain ⟨q0, h0, rfl⟩ := List.mem_map.mp hq
  obtain ⟨j, -, hj⟩ := List.mem_filterMap.mp h0
  exact List.mem_map.mpr ⟨q0, List.mem_of_getElem? hj, rfl⟩
/-- a field by its constant pool number: class ci, slot j -/
def mm_FL (own : String) (idx ci j : Nat) : Prop := ∃ (C : String) (T : u_T) (n : Nat) (ty : Nat → FieldType), vwCl[ci]? = some (C, T, n) ∧ j < n ∧ n = mm_nf ci ∧ ci < 11 ∧ (∀ w ∈ u_ws C T n, w ∈ mm_big) ∧ (∀ k, k < n → parseFieldDescriptor (T k).2.2.1 = some (ty k)) ∧ (∀ a, a < n → ∀ b, b < n → a ≠ b → (T a).2.1 ≠ (T b).2.1) ∧ Cond.fieldLink own idx (T j).1 (T j).2.1 (T j).2.2.1 ∈ mm_big ∧ (mm_ft ci j = 0 → ty j = .int) ∧ (mm_ft ci j = 1 → (∃ t, ty j = .array t) ∨ ∃ t, ty j = .object t) ∧ (mm_ft ci j = 2 → ty j = .long)
/-- a field that may be written by anyone -/
def mm_FN (ci j : Nat) : Prop := ∀ q, vwCl[ci]? = some q → (q.2.1 j).2.2.2 = false
theorem wp_getV {idx ci j r : Nat} {v : Value} (hF : mm_FL Y.1.cls idx ci j) (hK : mm_K r = ci) (hr : r < N) (hv : ∀ b x, mm_fv b F R G r ci j = mm_v b x v) (hd : decode Y.2.1 pc = .ok (.getfield idx, 3)) (kk : WP Y X N (pc + 3) lv (v :: st) F A R G) : WP Y X N pc lv (.ref r :: st) F A R G := by
  obtain ⟨⟨p, l, e, Rm, s⟩, ⟨m, args, below, meth, c⟩, ⟨D, cy, b, xx⟩, k, N0, N1, Q⟩ := X
  intro ok hN0 H locs ls hl hP hS
  obtain ⟨o1, o2, o3, o4, o5, o6, o7, o8, o9⟩ := id ok
  obtain ⟨C, T, n, ty, h1, h2, h3, h4, h5, h6, h7, h8, h9⟩ := hF
  refine va_get (D := D) (ci := ci) (v := mm_v b xx v) (C := C) (T := T) (N := n) o1 o2 o7 h5 o6 o8 hP r (by rw [mm_wl_get hr, mm_cell_o hK h4]) h1 j h2 (o7 _ h8) (fun _ h => h) ?_ hd (kk ok hN0 H locs ls hl hP hS)
  rw [mm_fs_get (by omega), hv b xx]
theorem wp_getI {idx ci j r : Nat} (hF : mm_FL Y.1.cls idx ci j) (ht : mm_ft ci j = 0) (hK : mm_K r = ci) (hr : r < N) (hd : decode Y.2.1 pc = .ok (.getfield idx, 3)) (kk : WP Y X N (pc + 3) lv (.int (F r j) :: st) F A R G) : WP Y X N pc lv (.ref r :: st) F A R G :=
  wp_getV hF hK hr (fun b x => by simp [mm_fv, ht, mm_v]) hd kk
theorem wp_getR {idx ci j r q : Nat} (hF : mm_FL Y.1.cls idx ci j) (ht : mm_ft ci j = 1) (hK : mm_K r = ci) (hr : r < N) (hq : R r j = some q) (hd : decode Y.2.1 pc = .ok (.getfield idx, 3)) (kk : WP Y X N (pc + 3) lv (.ref q :: st) F A R G) : WP Y X N pc lv (.ref r :: st) F A R G :=
  wp_getV hF hK hr (fun b x => by simp [mm_fv, ht, mm_v, hq, va_rf]) hd kk
theorem wp_getL {idx ci j r : Nat} (hF : mm_FL Y.1.cls idx ci j) (ht : mm_ft ci j = 2) (hK : mm_K r = ci) (hr : r < N) (hd : decode Y.2.1 pc = .ok (.getfield idx, 3)) (kk : WP Y X N (pc + 3) lv (.long (G r) :: st) F A R G) : WP Y X N pc lv (.ref r :: st) F A R G :=
  wp_getV hF hK hr (fun b x => by simp [mm_fv, ht, mm_v]) hd kk
theorem wp_putV {idx ci j r : Nat} {v : Value} {F' : mmF} {R' : mmR} {G' : mmG} (hF : mm_FL Y.1.cls idx ci j) (hN : mm_FN ci j) (hK : mm_K r = ci) (hr : r < N) (hv : ∀ b x, mm_fv b F' R' G' r ci j = mm_v b x v) (hn : ∀ b x ty, ((mm_ft ci j = 0 → ty = .int) ∧ (mm_ft ci j = 1 → (∃ t, ty = .array t) ∨ ∃ t, ty = .object t) ∧ (mm_ft ci j = 2 → ty = .long)) → narrow ty (mm_v b x v) = mm_v b x v ∧ fits ty (mm_v b x v) = true) (ho : ∀ b k, k ≠ j → mm_fv b F' R' G' r ci k = mm_fv b F R G r ci k) (hF' : ∀ i, i ≠ r → F' i = F i) (hR' : ∀ i, i ≠ r → R' i = R i) (hG' : ∀ i, i ≠ r → G' i = G i)
    (hd : decode Y.2.1 pc = .ok (.putfield idx, 3)) (kk : WP Y X N (pc + 3) lv st F' A R' G') : WP Y X N pc lv (v :: .ref r :: st) F A R G := by
  obtain ⟨⟨p, l, e, Rm, s⟩, ⟨m, args, below, meth, c⟩, ⟨D, cy, b, xx⟩, k, N0, N1, Q⟩ := X
  intro ok hN0 H locs ls hl hP hS
  obtain ⟨o1, o2, o3, o4, o5, o6, o7, o8, o9⟩ := id ok
  obtain ⟨C, T, n, ty, h1, h2, h3, h4, h5, h6, h7, h8, h10⟩ := hF
  obtain ⟨n1, n2⟩ := hn b xx (ty j) h10
  refine va_put (D := D) (ci := ci) (v := mm_v b xx v) (ty := ty j) (C := C) (T := T) (N := n) (A := fun q => b ≤ q) o1 o2 o7 h5 ty h6 h7 o6 o8 hP mm_D hS r (by rw [mm_wl_get hr, mm_cell_o hK h4]) h1 j h2 (o7 _ h8) (fun _ h => h) (hN _ h1) (h6 j h2) n1 n2 (by rw [mm_fs_len]; omega) hd (fun H1 locs1 hP1 _ hS1 => ?_)
  rw [mm_set (F' := F') (A' := A) (R' := R') (G' := G') hr (by rw [mm_cell_o hK h4, mm_fs_set (F' := F') (R' := R') (G' := G') (by omega) (hv b xx) (ho b)]) (fun i hi => mm_cell_congr (hF' i hi) rfl (hR' i hi) (hG' i hi))] at hP1
  exact kk ok hN0 H1 locs1 ls hl hP1 hS1

/-- a row of F (or A), one place of it anew -/
def u2 {α : Type} (f : Nat → Nat → α) (r k : Nat) (v : α) : Nat → Nat → α := va_up f r (va_up (f r) k v)
theorem u2_ne {α : Type} {f : Nat → Nat → α} {r k i : Nat} {v : α} (h : i ≠ r) : u2 f r k v i = f i := va_up_ne _ _ h
theorem u2_row {α : Type} {f : Nat → Nat → α} {r k : Nat} {v : α} : u2 f r k v r = va_up (f r) k v := va_up_self _ _ _
theorem wp_putI {idx ci j r : Nat} {v : Int32} (hF : mm_FL Y.1.cls idx ci j) (hN : mm_FN ci j) (ht : mm_ft ci j = 0) (hK : mm_K r = ci) (hr : r < N) (hd : decode Y.2.1 pc = .ok (.putfield idx, 3)) (kk : WP Y X N (pc + 3) lv st (u2 F r j v) A R G) : WP Y X N pc lv (.int v :: .ref r :: st) F A R G := by
  refine wp_putV (F' := u2 F r j v) (R' := R) (G' := G) hF hN hK hr (fun b x => by simp [mm_fv, ht, mm_v, u2_row, va_up_self]) (fun b x ty h => by rw [h.1 ht]; exact ⟨rfl, rfl⟩) (fun b k hk => ?_) (fun i hi => u2_ne hi) (fun _ _ => rfl) (fun _ _ => rfl) hd kk
  simp [mm_fv, u2_row, va_up_ne _ _ hk]
theorem wp_putL {idx ci j r : Nat} {v : Int64} (hF : mm_FL Y.1.cls idx ci j) (hN : mm_FN ci j) (ht : mm_ft ci j = 2) (hs : ∀ k, k ≠ j → mm_ft ci k < 2) (hK : mm_K r = ci) (hr : r < N) (hd : decode Y.2.1 pc = .ok (.putfield idx, 3)) (kk : WP Y X N (pc + 3) lv st F A R (va_up G r v)) : WP Y X N pc lv (.long v :: .ref r :: st) F A R G := by
  refine wp_putV (F' := F) (R' := R) (G' := va_up G r v) hF hN hK hr (fun b x => by simp [mm_fv, ht, mm_v, va_up_self]) (fun b x ty h => by rw [h.2.2 ht]; exact ⟨rfl, rfl⟩) (fun b k hk => ?_) (fun _ _ => rfl) (fun _ _ => rfl) (fun i hi => va_up_ne _ _ hi) hd kk
  have h := hs k hk
  rcases (show mm_ft ci k = 0 ∨ mm_ft ci k = 1 by omega) with h | h <;> simp [mm_fv, h]
theorem mm_fits_ref {ty : FieldType} {a : Nat} (h : (∃ t, ty = .array t) ∨ ∃ t, ty = .object t) : narrow ty (.ref a) = .ref a ∧ fits ty (.ref a) = true := by
  rcases h with ⟨t, rfl⟩ | ⟨t, rfl⟩ <;> exact ⟨rfl, rfl⟩
theorem wp_putR {idx ci j r q : Nat} (hF : mm_FL Y.1.cls idx ci j) (hN : mm_FN ci j) (ht : mm_ft ci j = 1) (hK : mm_K r = ci) (hr : r < N) (hd : decode Y.2.1 pc = .ok (.putfield idx, 3)) (kk : WP Y X N (pc + 3) lv st F A (u2 R r j (some q)) G) : WP Y X N pc lv (.ref q :: .ref r :: st) F A R G := by
  refine wp_putV (F' := F) (R' := u2 R r j (some q)) (G' := G) hF hN hK hr (fun b x => by simp [mm_fv, ht, mm_v, u2_row, va_up_self, va_rf]) (fun b x ty h => mm_fits_ref (h.2.1 ht)) (fun b k hk => ?_) (fun _ _ => rfl) (fun i hi => u2_ne hi) (fun _ _ => rfl) hd kk
  simp [mm_fv, u2_row, va_up_ne _ _ hk]
/-- a final field, in the constructor of its class -/
theorem wp_putRF {idx ci j r q : Nat} (hF : mm_FL Y.1.cls idx ci j) (hfin : ∀ z, vwCl[ci]? = some z → (z.2.1 j).2.2.2 = true ∧ (z.2.1 j).1 = Y.1.cls) (hy : Y.1.name = "<init>") (ht : mm_ft ci j = 1) (hK : mm_K r = ci) (hr : r < N) (hd : decode Y.2.1 pc = .ok (.putfield idx, 3)) (kk : WP Y X N (pc + 3) lv st F A (u2 R r j (some q)) G) : WP Y X N pc lv (.ref q :: .ref r :: st) F A R G := by
  obtain ⟨⟨p, l, e, Rm, s⟩, ⟨m, args, below, meth, c⟩, ⟨D, cy, b, xx⟩, k, N0, N1, Q⟩ := X
  intro ok hN0 H locs ls hl hP hS
  obtain ⟨o1, o2, o3, o4, o5, o6, o7, o8, o9, o10, o11, o12⟩ := id ok
  obtain ⟨C, T, n, ty, h1, h2, h3, h4, h5, h6, h7, h8, h10⟩ := hF
  obtain ⟨n1, n2⟩ := mm_fits_ref (a := b + q) (h10.2.1 ht)
  refine va_putF (D := D) (ci := ci) (v := .ref (b + q)) (ty := ty j) (C := C) (T := T) (N := n) (A := fun q => b ≤ q) o1 o2 o7 h5 ty h6 h7 o6 o8 hP mm_D hS r (by rw [mm_wl_get hr, mm_cell_o hK h4]) h1 j h2 (o7 _ h8) (fun _ h => h) (hfin _ h1).1 (o11.trans hy) (hfin _ h1).2 (h6 j h2) n1 n2 (by rw [mm_fs_len]; omega) hd (fun H1 locs1 hP1 _ hS1 => ?_)
  rw [mm_set (F' := F) (A' := A) (R' := u2 R r j (some q)) (G' := G) hr (by rw [mm_cell_o hK h4, mm_fs_set (F' := F) (R' := u2 R r j (some q)) (G' := G) (by omega) (by simp [mm_fv, ht, u2_row, va_up_self, va_rf]) (fun k hk => by simp [mm_fv, u2_row, va_up_ne _ _ hk])]) (fun i hi => mm_cell_congr rfl rfl (u2_ne hi) rfl)] at hP1
  exact kk ok hN0 H1 locs1 ls hl hP1 hS1
theorem mm_nI_in {i : Int32} {j n : Nat} (hi : i = nI j) (hj : j < n) (hn : n < 2 ^ 31) : vp_in i n ∧ i.toNatClampNeg = j := by
  subst hi; exact ⟨vp_in_nI hj hn, nI_clamp (by omega)⟩
theorem mm_len_lt : ∀ r, mm_len r < 2 ^ 31 := by
  intro r
  have h : ∀ n ∈ mm_Ll, n < 2 ^ 31 := by decide +kernel
  unfold mm_len
  rw [List.getD_eq_getElem?_getD]
  cases hr : mm_Ll[r]? with
  | none => decide
  | some n => exact h n (List.mem_of_getElem? hr)
theorem wp_iald {r : Nat} {i : Int32} (j : Nat) (hi : i = nI j) (hK : mm_K r = 11) (hr : r < N) (hj : j < mm_len r) (hd : decode Y.2.1 pc = .ok (.iaload, 1)) (kk : WP Y X N (pc + 1) lv (.int (A r j) :: st) F A R G) : WP Y X N pc lv (.int i :: .ref r :: st) F A R G := by
  obtain ⟨⟨p, l, e, Rm, s⟩, ⟨m, args, below, meth, c⟩, ⟨D, cy, b, xx⟩, k, N0, N1, Q⟩ := X
  intro ok hN0 H locs ls hl hP hS
  obtain ⟨o1, o2, o3, o4, o5, o6, o7, o8, o9⟩ := id ok
  obtain ⟨h1, h2⟩ := mm_nI_in hi hj (mm_len_lt r)
  refine va_iald o1 o2 o8 hP r 0 (by rw [mm_wl_get hr, mm_cell_i hK]) rfl h1 hd ?_
  rw [h2]
  exact kk ok hN0 H locs ls hl hP hS
theorem wp_zald {r : Nat} {i : Int32} (j : Nat) (hi : i = nI j) (hK : mm_K r = 12) (hr : r < N) (hj : j < mm_len r) (hd : decode Y.2.1 pc = .ok (.baload, 1)) (kk : WP Y X N (pc + 1) lv (.int (A r j) :: st) F A R G) : WP Y X N pc lv (.int i :: .ref r :: st) F A R G := by
  obtain ⟨⟨p, l, e, Rm, s⟩, ⟨m, args, below, meth, c⟩, ⟨D, cy, b, xx⟩, k, N0, N1, Q⟩ := X
  intro ok hN0 H locs ls hl hP hS
  obtain ⟨o1, o2, o3, o4, o5, o6, o7, o8, o9⟩ := id ok
  obtain ⟨h1, h2⟩ := mm_nI_in hi hj (mm_len_lt r)
  refine va_zald o1 o2 o8 hP r 1 (by rw [mm_wl_get hr, mm_cell_z hK]) rfl h1 hd ?_
  rw [h2]
  exact kk ok hN0 H locs ls hl hP hS
theorem wp_aald {r q : Nat} {i : Int32} (j : Nat) (hi : i = nI j) (hK : mm_K r = 13) (hr : r < N) (hj : j < mm_len r) (hq : R r j = some q) (hd : decode Y.2.1 pc = .ok (.aaload, 1)) (kk : WP Y X N (pc + 1) lv (.ref q :: st) F A R G) : WP Y X N pc lv (.int i :: .ref r :: st) F A R G := by
  obtain ⟨⟨p, l, e, Rm, s⟩, ⟨m, args, below, meth, c⟩, ⟨D, cy, b, xx⟩, k, N0, N1, Q⟩ := X
  intro ok hN0 H locs ls hl hP hS
  obtain ⟨o1, o2, o3, o4, o5, o6, o7, o8, o9⟩ := id ok
  obtain ⟨h1, h2⟩ := mm_nI_in hi hj (mm_len_lt r)
  refine va_aldq (C := "CoconutShies$Stand") o1 o2 o8 hP r 2 (by rw [mm_wl_get hr, mm_cell_r hK]) rfl h1 hd ?_
  rw [h2, hq]
  exact kk ok hN0 H locs ls hl hP hS
theorem wp_iast {r : Nat} {i v : Int32} (j : Nat) (hi : i = nI j) (hK : mm_K r = 11) (hr : r < N) (hj : j < mm_len r) (hd : decode Y.2.1 pc = .ok (.iastore, 1)) (kk : WP Y X N (pc + 1) lv st F (u2 A r j v) R G) : WP Y X N pc lv (.int v :: .int i :: .ref r :: st) F A R G := by
  obtain ⟨⟨p, l, e, Rm, s⟩, ⟨m, args, below, meth, c⟩, ⟨D, cy, b, xx⟩, k, N0, N1, Q⟩ := X
  intro ok hN0 H locs ls hl hP hS
  obtain ⟨o1, o2, o3, o4, o5, o6, o7, o8, o9⟩ := id ok
  obtain ⟨h1, h2⟩ := mm_nI_in hi hj (mm_len_lt r)
  refine va_iast (A := fun q => b ≤ q) o1 o2 o8 hP mm_D hS r 0 (by rw [mm_wl_get hr, mm_cell_i hK]) rfl h1 hd (fun H1 locs1 hP1 _ hS1 => ?_)
  rw [h2, mm_set (F' := F) (A' := u2 A r j v) (R' := R) (G' := G) hr (by rw [mm_cell_i hK, u2_row]; rfl) (fun i hi => mm_cell_congr rfl (u2_ne hi) rfl rfl)] at hP1
  exact kk ok hN0 H1 locs1 ls hl hP1 hS1
theorem wp_zast {r : Nat} {i v : Int32} (j : Nat) (hi : i = nI j) (hv : vp_nar .boolean v = v) (hK : mm_K r = 12) (hr : r < N) (hj : j < mm_len r) (hd : decode Y.2.1 pc = .ok (.bastore, 1)) (kk : WP Y X N (pc + 1) lv st F (u2 A r j v) R G) : WP Y X N pc lv (.int v :: .int i :: .ref r :: st) F A R G := by
  obtain ⟨⟨p, l, e, Rm, s⟩, ⟨m, args, below, meth, c⟩, ⟨D, cy, b, xx⟩, k, N0, N1, Q⟩ := X
  intro ok hN0 H locs ls hl hP hS
  obtain ⟨o1, o2, o3, o4, o5, o6, o7, o8, o9⟩ := id ok
  obtain ⟨h1, h2⟩ := mm_nI_in hi hj (mm_len_lt r)
  refine va_zast (A := fun q => b ≤ q) o1 o2 o8 hP mm_D hS r 1 (by rw [mm_wl_get hr, mm_cell_z hK]) rfl h1 hd (fun H1 locs1 hP1 _ hS1 => ?_)
  rw [hv, h2, mm_set (F' := F) (A' := u2 A r j v) (R' := R) (G' := G) hr (by rw [mm_cell_z hK, u2_row]; rfl) (fun i hi => mm_cell_congr rfl (u2_ne hi) rfl rfl)] at hP1
  exact kk ok hN0 H1 locs1 ls hl hP1 hS1
theorem wp_aast {r q : Nat} {i : Int32} (j : Nat) (hi : i = nI j) (hK : mm_K r = 13) (hr : r < N) (hj : j < mm_len r) (hq : mm_K q = 7) (hqN : q < N) (hd : decode Y.2.1 pc = .ok (.aastore, 1)) (kk : WP Y X N (pc + 1) lv st F A (u2 R r j (some q)) G) : WP Y X N pc lv (.ref q :: .int i :: .ref r :: st) F A R G := by
  obtain ⟨⟨p, l, e, Rm, s⟩, ⟨m, args, below, meth, c⟩, ⟨D, cy, b, xx⟩, k, N0, N1, Q⟩ := X
  intro ok hN0 H locs ls hl hP hS
  obtain ⟨o1, o2, o3, o4, o5, o6, o7, o8, o9⟩ := id ok
  obtain ⟨h1, h2⟩ := mm_nI_in hi hj (mm_len_lt r)
  refine va_astq (A := fun q => b ≤ q) (r := (RX7, TX7, 7)) (v := b + q) (vs := mm_fs b F R G q 7) o1 o2 o8 hP mm_D hS r 2 q 7 (by rw [mm_wl_get hr, mm_cell_r hK]) rfl (by rw [mm_wl_get hqN, mm_cell_o hq (by decide)]) rfl h1 hd (fun H1 locs1 hP1 _ hS1 => ?_)
  rw [h2, mm_set (F' := F) (A' := A) (R' := u2 R r j (some q)) (G' := G) hr (by
    rw [mm_cell_r hK, u2_row]
    congr 7
    funext i
    by_cases hij : i = j
    · subst hij; simp [va_up]
    · simp [va_up, hij]) (fun i hi => mm_cell_congr rfl rfl (u2_ne hi) rfl)] at hP1
  exact kk ok hN0 H1 locs1 ls hl hP1 hS1
theorem wp_alen {r : Nat} {v : Int32} (hK : mm_K r = 11 ∨ mm_K r = 12 ∨ mm_K r = 13) (hr : r < N) (hv : nI (mm_len r) = v) (hd : decode Y.2.1 pc = .ok (.arraylength, 1)) (kk : WP Y X N (pc + 1) lv (.int v :: st) F A R G) : WP Y X N pc lv (.ref r :: st) F A R G := by
  obtain ⟨⟨p, l, e, Rm, s⟩, ⟨m, args, below, meth, c⟩, ⟨D, cy, b, xx⟩, k, N0, N1, Q⟩ := X
  intro ok hN0 H locs ls hl hP hS
  obtain ⟨o1, o2, o3, o4, o5, o6, o7, o8, o9⟩ := id ok
  rcases hK with hK | hK | hK
  · exact va_alen (x := (mm_len r, .inl (A r))) o1 o2 o8 hP r 0 (by rw [mm_wl_get hr, mm_cell_i hK]) rfl hv hd (kk ok hN0 H locs ls hl hP hS)
  · exact va_alen (x := (mm_len r, .inl (A r))) o1 o2 o8 hP r 1 (by rw [mm_wl_get hr, mm_cell_z hK]) rfl hv hd (kk ok hN0 H locs ls hl hP hS)
  · exact va_alen (x := (mm_len r, .inr (.inr (.inr (.inr (fun i => (R r i).map (b + ·))))))) o1 o2 o8 hP r 2 (by rw [mm_wl_get hr, mm_cell_r hK]) rfl hv hd (kk ok hN0 H locs ls hl hP hS)

end MMR
