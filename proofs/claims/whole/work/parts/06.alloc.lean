section MMA
variable {Y : mmY} {X : mmX} {N pc : Nat} {lv : List (Nat × Value)} {st : List Value} {F A : mmF} {R : mmR} {G : mmG} {l : Launch} {k N0 N1 : Nat} {post : mmP}
theorem mm_wl_succ {cy : Nat → ClassId} {b N : Nat} {F A : mmF} {R : mmR} {G : mmG} : mm_wl cy b (N + 1) F A R G = mm_wl cy b N F A R G ++ [(b + N, mm_cell cy b F A R G N)] := by
  simp [mm_wl, List.range_succ]
/-- a new cell's address is the next role's -/
theorem mm_next {p : Program} {l : Launch} {e : Env} {Rm : Room} {s : State} {m : MethodId} {args : Array Value} {below : List Frame} {meth : Method} {c : Code} {T : State} {H1 : Heap} {locs : List Loc} {n b N0 N q : Nat} {D : va_G} {cy : Nat → ClassId} {E : va_E} (hT : T.heap = H1) (Z : Stand p l e Rm s m args below meth c T locs (N - N0 + 1) n) (h0 : s.heap.size = b + N0) (hN : N0 ≤ N) (hP : va_P D vwCl (mm_wl cy b N F A R G ++ [(q, E)]) H1) (hD : va_D (fun q => b ≤ q) (mm_wl cy b N F A R G ++ [(q, E)])) : q = b + N := by
  have h1 := Z.heapSize
  rw [hT, h0] at h1
  have hlen : (mm_wl cy b N F A R G).length = N := by simp [mm_wl]
  have hq : (mm_wl cy b N F A R G ++ [(q, E)])[N]? = some (q, E) := by
    rw [List.getElem?_append_right (by rw [hlen]; exact Nat.le_refl _), hlen, Nat.sub_self]; rfl
  have h2 : q < H1.size := (hP N _ hq).lt
  have h3 : b ≤ q := hD.2 N _ hq
  rcases Nat.lt_or_ge q (b + N) with h | h
  · have h4 : (mm_wl cy b N F A R G ++ [(q, E)])[q - b]? = some (b + (q - b), mm_cell cy b F A R G (q - b)) := by
      rw [List.getElem?_append_left (by rw [hlen]; omega), mm_wl_get (by omega)]
    have := hD.1 _ _ _ _ h4 hq (show b + (q - b) = q by omega)
    omega
  · omega
theorem mm_sl_succ {N n : Nat} (h : (if mm_K N < 11 then mm_nf (mm_K N) else mm_len N) = n) (h0 : N0 ≤ N) : mm_sl N - mm_sl N0 + n = mm_sl (N + 1) - mm_sl N0 := by
  have := mm_sl_mono h0
  show _ = mm_sl N + _ - _
  rw [h]; omega
theorem wp_new {idx ci n : Nat} {C : String} {T : u_T} {ty : Nat → FieldType} (hC : mm_C l k N0 N1 post X) (hN1 : N + 1 ≤ N1) (hK : mm_K N = ci) (hci : vwCl[ci]? = some (C, T, n)) (hnf : mm_nf ci = n) (hin : ∀ w ∈ u_ws C T n, w ∈ mm_big) (hty : ∀ j, j < n → parseFieldDescriptor (T j).2.2.1 = some (ty j)) (hcl : Cond.classLink Y.1.cls idx C ∈ mm_big) (hinst : Cond.instantiable C n ∈ mm_big) (hini : Cond.initialized C ∈ mm_big) (hfv : ∀ b j, j < n → defaultValue (ty j) = mm_fv b F R G N ci j) (hd : decode Y.2.1 pc = .ok (.new idx, 3)) (kk : WP Y X (N + 1) (pc + 3) lv (.ref N :: st) F A R G) : WP Y X N pc lv st F A R G := by
  obtain ⟨⟨p, l, e, Rm, s⟩, ⟨m, args, below, meth, c⟩, ⟨D, cy, b, xx⟩, k, N0, N1, Q⟩ := X
  obtain ⟨rfl, rfl, rfl, rfl, rfl⟩ := hC
  intro ok hN0 H locs ls hl hP hS
  obtain ⟨o1, o2, o3, o4, o5, o6, o7, o8, o9, o10, o11, o12, o13⟩ := id ok
  have hlt : ci < 11 := by have := (List.getElem?_eq_some_iff.mp hci).1; simpa using this
  have hs := mm_sl_succ (N0 := N0) (N := N) (n := n) (by rw [hK, if_pos hlt, hnf]) hN0
  have hmono := mm_sl_mono hN1
  refine va_new (D := D) (ci := ci) (fs := mm_fs b F R G N ci) (C := C) (T := T) (N := n) (A := fun q => b ≤ q) o1 o2 o7 hin ty hty o6 (o7 _ hcl) (o7 _ hinst) (o7 _ hini) o8 hP mm_D hS (fun q h => by show b ≤ q; omega) hci (fun j hj => by rw [hfv b j hj]; simp [vp_V, mm_fs, hnf, hj]) (by omega) (by omega) hd (fun q H1 hP1 hD1 hS1 => ?_)
  intro T1 hT1 Z1
  have hq := mm_next hT1 Z1 o12 hN0 hP1 hD1
  subst hq
  rw [← mm_cell_o (cy := cy) (A := A) hK hlt, ← mm_wl_succ] at hP1
  have K := kk ok (by omega) H1 locs ls hl hP1 hS1
  rw [hs, show N - N0 + 1 = N + 1 - N0 by omega] at Z1
  exact K T1 hT1 Z1
theorem wp_newI {a : ArrayType} {ty : FieldType} {i : Int32} {n t0 : Nat} (hC : mm_C l k N0 N1 post X) (hN1 : N + 1 ≤ N1) (hi : i = nI n) (hn : mm_len N = n) (hb : n * 4 ≤ 536870912) (hty : newarray.typeOf a = ty) (hT : (ty = .int ∧ mm_K N = 11) ∨ (ty = .boolean ∧ mm_K N = 12)) (hw : Cond.arrayClass ty ∈ mm_big) (hA : A N = fun _ => 0) (hd : decode Y.2.1 pc = .ok (.newarray a, 2)) (kk : WP Y X (N + 1) (pc + 2) lv (.ref N :: st) F A R G) : WP Y X N pc lv (.int i :: st) F A R G := by
  obtain ⟨⟨p, l, e, Rm, s⟩, ⟨m, args, below, meth, c⟩, ⟨D, cy, b, xx⟩, k, N0, N1, Q⟩ := X
  obtain ⟨rfl, rfl, rfl, rfl, rfl⟩ := hC
  intro ok hN0 H locs ls hl hP hS
  obtain ⟨o1, o2, o3, o4, o5, o6, o7, o8, o9, o10, o11, o12, o13⟩ := id ok
  have hs := mm_sl_succ (N0 := N0) (N := N) (n := n) (by rcases hT with ⟨-, h⟩ | ⟨-, h⟩ <;> rw [h] <;> simp [hn]) hN0
  have hmono := mm_sl_mono hN1
  have hlt := mm_len_lt N
  subst hi
  refine va_newa (A := fun q => b ≤ q) (ty := ty) (a0 := (n, .inl (fun _ => 0))) o1 o2 (by rw [hty]; exact o7 _ hw) hty o8 hP mm_D hS (fun q h => by show b ≤ q; omega) (fun cA => by rcases hT with ⟨h, -⟩ | ⟨h, -⟩ <;> rw [h] <;> rfl) (nI_pos (by omega)) (nI_clamp (by omega)) (by rcases hT with ⟨h, -⟩ | ⟨h, -⟩ <;> rw [h] <;> simp [componentBytes] <;> omega) (by omega) (by omega) hd (fun q cA H1 hK1 hP1 hD1 hS1 => ?_)
  intro T1 hT1 Z1
  have hq := mm_next hT1 Z1 o12 hN0 hP1 hD1
  subst hq
  have hcA : (Sum.inl (cA, n, Sum.inl (fun _ => 0)) : va_E) = mm_cell cy b F A R G N := by
    have h3 := (hK1.2 3 (cA, ty) rfl).2
    rcases hT with ⟨h, h1⟩ | ⟨h, h1⟩
    · subst h
      have h4 := (o8.2 0 (cy 0, .int) rfl).2
      rw [mm_cell_i h1, hn, hA, show cA = cy 0 from Option.some.inj ((show s.vm.findClass _ = some cA from h3).symm.trans h4)]
    · subst h
      have h4 := (o8.2 1 (cy 1, .boolean) rfl).2
      rw [mm_cell_z h1, hn, hA, show cA = cy 1 from Option.some.inj ((show s.vm.findClass _ = some cA from h3).symm.trans h4)]
  rw [hcA, ← mm_wl_succ] at hP1
  have K := kk ok (by omega) H1 locs ls hl hP1 hS1
  rw [hs, show N - N0 + 1 = N + 1 - N0 by omega] at Z1
  exact K T1 hT1 Z1
theorem wp_newR {idx : Nat} {i : Int32} {n : Nat} (hC : mm_C l k N0 N1 post X) (hN1 : N + 1 ≤ N1) (hi : i = nI n) (hn : mm_len N = n) (hb : n * 4 ≤ 536870912) (hK : mm_K N = 13) (hw : Cond.classLink Y.1.cls idx "CoconutShies$Stand" ∈ mm_big) (hA : R N = fun _ => none) (hd : decode Y.2.1 pc = .ok (.anewarray idx, 3)) (kk : WP Y X (N + 1) (pc + 3) lv (.ref N :: st) F A R G) : WP Y X N pc lv (.int i :: st) F A R G := by
  obtain ⟨⟨p, l, e, Rm, s⟩, ⟨m, args, below, meth, c⟩, ⟨D, cy, b, xx⟩, k, N0, N1, Q⟩ := X
  obtain ⟨rfl, rfl, rfl, rfl, rfl⟩ := hC
  intro ok hN0 H locs ls hl hP hS
  obtain ⟨o1, o2, o3, o4, o5, o6, o7, o8, o9, o10, o11, o12, o13⟩ := id ok
  have hs := mm_sl_succ (N0 := N0) (N := N) (n := n) (by rw [hK]; simp [hn]) hN0
  have hmono := mm_sl_mono hN1
  have hlt := mm_len_lt N
  subst hi
  refine va_newq (A := fun q => b ≤ q) (C := "CoconutShies$Stand") o1 o2 o6 (o7 _ hw) o9.2 o8 hP mm_D hS (fun q h => by show b ≤ q; omega) (nI_pos (by omega)) (nI_clamp (by omega)) hb (by omega) (by omega) hd (fun q cA H1 hK1 hP1 hD1 hS1 => ?_)
  intro T1 hT1 Z1
  have hq := mm_next hT1 Z1 o12 hN0 hP1 hD1
  subst hq
  have hcA : (Sum.inl (cA, n, .inr (.inr (.inr (.inr (fun _ => none))))) : va_E) = mm_cell cy b F A R G N := by
    obtain ⟨-, -, -, -, -, h3⟩ := (hK1.2 3 (cA, .object "CoconutShies$Stand") rfl).2
    obtain ⟨-, -, -, -, -, h4⟩ := (o8.2 2 (cy 2, .object "CoconutShies$Stand") rfl).2
    rw [mm_cell_r hK, hn, hA, show cA = cy 2 from Option.some.inj (h3.symm.trans h4)]
    rfl
  rw [hcA, ← mm_wl_succ] at hP1
  have K := kk ok (by omega) H1 locs ls hl hP1 hS1
  rw [hs, show N - N0 + 1 = N + 1 - N0 by omega] at Z1
  exact K T1 hT1 Z1
theorem wp_objInit {idx r : Nat} (hC : mm_C l k N0 N1 post X) (hk : 1 ≤ k) (hl1 : Cond.methodLink Y.1.cls idx objectInit ∈ mm_big) (hl2 : Cond.instanceMethod objectInit ∈ mm_big) (hl3 : Cond.code objectInit ⟨#[0xb1]⟩ 1 none ∈ mm_big) (hc : (st.map fun v => v.category).sum ≤ 8) (hd : decode Y.2.1 pc = .ok (.invokespecial idx, 3)) (kk : WP Y X N (pc + 3) lv st F A R G) : WP Y X N pc lv (.ref r :: st) F A R G := by
  obtain ⟨⟨p, l, e, Rm, s⟩, ⟨m, args, below, meth, c⟩, ⟨D, cy, b, xx⟩, k, N0, N1, Q⟩ := X
  obtain ⟨rfl, rfl, rfl, rfl, rfl⟩ := hC
  intro ok hN0 H locs ls hl hP hS
  obtain ⟨o1, o2, o3, o4, o5, o6, o7, o8, o9, o10, o11, o12, o13⟩ := id ok
  exact W.objInit (g := F0 m pc ls (.ref (b + r) :: st.map (mm_v b xx))) o1 o2 o6 (o7 _ hl1) (o7 _ hl2) (o7 _ hl3) rfl (by rw [o3]; exact hl.1) rfl hd (by omega) (by show 2 * 0 + _ + 12 ≤ _; rw [mm_cat]; omega) (kk ok hN0 H locs ls hl hP hS)
theorem wp_max {idx : Nat} {x y : Int32} (hC : mm_C l k N0 N1 post X) (hk : 1 ≤ k) (hN : N ≤ N1) (hl1 : Cond.methodLink Y.1.cls idx Lib.Math.max.name ∈ mm_big) (hl2 : Cond.static Lib.Math.max.name ∈ mm_big) (hl3 : Cond.initialized "java/lang/Math" ∈ mm_big) (hl4 : Cond.code Lib.Math.max.name Lib.Math.max.code 2 (some .int) ∈ mm_big) (hc : (st.map fun v => v.category).sum ≤ 8) (hd : decode Y.2.1 pc = .ok (.invokestatic idx, 3)) (kk : WP Y X N (pc + 3) lv (.int (if x < y then y else x) :: st) F A R G) : WP Y X N pc lv (.int y :: .int x :: st) F A R G := by
  obtain ⟨⟨p, l, e, Rm, s⟩, ⟨m, args, below, meth, c⟩, ⟨D, cy, b, xx⟩, k, N0, N1, Q⟩ := X
  obtain ⟨rfl, rfl, rfl, rfl, rfl⟩ := hC
  intro ok hN0 H locs ls hl hP hS
  obtain ⟨o1, o2, o3, o4, o5, o6, o7, o8, o9, o10, o11, o12, o13⟩ := id ok
  have a1 := mm_sl_mono hN
  exact va_mmax o1 o2 (by rw [o3]; exact hl.1.symm) o6 (o7 _ hl1) (o7 _ hl2) (o7 _ hl3) (o7 _ hl4) (by omega) (by rw [mm_cat]; omega) (by omega) (by omega) hd (kk ok hN0 H locs ls hl hP hS)
theorem wp_min {idx : Nat} {x y : Int32} (hC : mm_C l k N0 N1 post X) (hk : 1 ≤ k) (hN : N ≤ N1) (hl1 : Cond.methodLink Y.1.cls idx Lib.Math.min.name ∈ mm_big) (hl2 : Cond.static Lib.Math.min.name ∈ mm_big) (hl3 : Cond.initialized "java/lang/Math" ∈ mm_big) (hl4 : Cond.code Lib.Math.min.name Lib.Math.min.code 2 (some .int) ∈ mm_big) (hc : (st.map fun v => v.category).sum ≤ 8) (hd : decode Y.2.1 pc = .ok (.invokestatic idx, 3)) (kk : WP Y X N (pc + 3) lv (.int (if y < x then y else x) :: st) F A R G) : WP Y X N pc lv (.int y :: .int x :: st) F A R G := by
  obtain ⟨⟨p, l, e, Rm, s⟩, ⟨m, args, below, meth, c⟩, ⟨D, cy, b, xx⟩, k, N0, N1, Q⟩ := X
  obtain ⟨rfl, rfl, rfl, rfl, rfl⟩ := hC
  intro ok hN0 H locs ls hl hP hS
  obtain ⟨o1, o2, o3, o4, o5, o6, o7, o8, o9, o10, o11, o12, o13⟩ := id ok
  have a1 := mm_sl_mono hN
  have K := kk ok hN0 H locs ls hl hP hS
  refine va_mmin o1 o2 (by rw [o3]; exact hl.1.symm) o6 (o7 _ hl1) (o7 _ hl2) (o7 _ hl3) (o7 _ hl4) (by omega) (by rw [mm_cat]; omega) (by omega) (by omega) hd ?_
  first | exact K | (refine W.eq ?_ K; congr 2; split <;> split <;> simp_all <;> bv_omega)
/-- System.arraycopy of n ints from the one's start to the other's -/
theorem wp_copy {idx r0 r1 n : Nat} {i : Int32} (hC : mm_C l k N0 N1 post X) (hk : 2 ≤ k) (hi : i = nI n) (h0 : mm_K r0 = 11) (h1 : mm_K r1 = 11) (hr0 : r0 < N) (hr1 : r1 < N) (hn0 : n ≤ mm_len r0) (hn1 : n ≤ mm_len r1) (hl1 : Cond.methodLink Y.1.cls idx arraycopyName ∈ mm_big) (hl2 : Cond.native arraycopyName ∈ mm_big) (hl3 : Cond.static arraycopyName ∈ mm_big) (hl4 : Cond.initialized "java/lang/System" ∈ mm_big) (hc : (st.map fun v => v.category).sum ≤ 8) (hd : decode Y.2.1 pc = .ok (.invokestatic idx, 3)) (kk : WP Y X N (pc + 3) lv st F (va_up A r1 (va_cpy (A r0) (A r1) 0 0 n)) R G) : WP Y X N pc lv (.int i :: .int 0 :: .ref r1 :: .int 0 :: .ref r0 :: st) F A R G := by
  obtain ⟨⟨p, l, e, Rm, s⟩, ⟨m, args, below, meth, c⟩, ⟨D, cy, b, xx⟩, k, N0, N1, Q⟩ := X
  obtain ⟨rfl, rfl, rfl, rfl, rfl⟩ := hC
  intro ok hN0 H locs ls hl hP hS
  obtain ⟨o1, o2, o3, o4, o5, o6, o7, o8, o9, o10, o11, o12, o13⟩ := id ok
  subst hi
  have hlt := mm_len_lt r0
  have hz : (0 : Int32).toNatClampNeg = 0 := rfl
  have hnn : (nI n).toNatClampNeg = n := nI_clamp (by omega)
  refine va_copyi (A := fun q => b ≤ q) (ty := .int) o1 o2 (by rw [o3]; exact hl.1.symm) o6 (o7 _ hl1) (o7 _ hl2) (o7 _ hl3) (o7 _ hl4) o8 hP mm_D hS r0 r1 0 0 (by rw [mm_wl_get hr0, mm_cell_i h0]) (by rw [mm_wl_get hr1, mm_cell_i h1]) rfl rfl rfl (by decide) (by decide) (nI_pos (by omega)) (by rw [hz, hnn]; omega) (by rw [hz, hnn]; omega) (fun _ _ => rfl) (by omega) (by rw [mm_cat]; simp [nativeFrameWords]; omega) hd (fun H1 locs1 hP1 _ hS1 => ?_)
  rw [hz, hnn, mm_set (F' := F) (A' := va_up A r1 (va_cpy (A r0) (A r1) 0 0 n)) (R' := R) (G' := G) hr1 (by rw [mm_cell_i h1, va_up_self]) (fun i hi => mm_cell_congr rfl (va_up_ne _ _ hi) rfl rfl)] at hP1
  exact kk ok hN0 H1 locs1 ls hl hP1 hS1
theorem wp_gets1 {idx : Nat} (hw : Cond.fieldLink Y.1.cls idx "CoconutShies" "HUNDREDS" "[I" ∈ mm_big) (hd : decode Y.2.1 pc = .ok (.getstatic idx, 3)) (kk : WP Y X N (pc + 3) lv (.float 1 :: st) F A R G) : WP Y X N pc lv st F A R G := by
  obtain ⟨⟨p, l, e, Rm, s⟩, ⟨m, args, below, meth, c⟩, ⟨D, cy, b, xx⟩, k, N0, N1, Q⟩ := X
  intro ok hN0 H locs ls hl hP hS
  obtain ⟨o1, o2, o3, o4, o5, o6, o7, o8, o9, o10, o11, o12, o13⟩ := id ok
  exact va_gets o1 o2 o10.1.1 hS o6 (o7 _ hw) (fun _ h => h) hd (kk ok hN0 H locs ls hl hP hS)
theorem wp_gets2 {idx : Nat} (hw : Cond.fieldLink Y.1.cls idx "CoconutShies" "ORDERS" "[I" ∈ mm_big) (hd : decode Y.2.1 pc = .ok (.getstatic idx, 3)) (kk : WP Y X N (pc + 3) lv (.float 2 :: st) F A R G) : WP Y X N pc lv st F A R G := by
  obtain ⟨⟨p, l, e, Rm, s⟩, ⟨m, args, below, meth, c⟩, ⟨D, cy, b, xx⟩, k, N0, N1, Q⟩ := X
  intro ok hN0 H locs ls hl hP hS
  obtain ⟨o1, o2, o3, o4, o5, o6, o7, o8, o9, o10, o11, o12, o13⟩ := id ok
  exact va_gets o1 o2 o10.2.1 hS o6 (o7 _ hw) (fun _ h => h) hd (kk ok hN0 H locs ls hl hP hS)
theorem wp_tld1 {i : Int32} (j : Nat) (hi : i = nI j) (hj : j < 5) (hd : decode Y.2.1 pc = .ok (.iaload, 1)) (kk : WP Y X N (pc + 1) lv (.int (mm_hu j) :: st) F A R G) : WP Y X N pc lv (.int i :: .float 1 :: st) F A R G := by
  obtain ⟨⟨p, l, e, Rm, s⟩, ⟨m, args, below, meth, c⟩, ⟨D, cy, b, xx⟩, k, N0, N1, Q⟩ := X
  intro ok hN0 H locs ls hl hP hS
  obtain ⟨o1, o2, o3, o4, o5, o6, o7, o8, o9, o10, o11, o12, o13⟩ := id ok
  obtain ⟨h1, h2⟩ := mm_nI_in hi hj (by decide)
  exact va_ti o1 o2 o10.1.2 hS h1 (by rw [h2]; rfl) hd (kk ok hN0 H locs ls hl hP hS)
theorem wp_tld2 {i : Int32} (j : Nat) (hi : i = nI j) (hj : j < 5) (hd : decode Y.2.1 pc = .ok (.iaload, 1)) (kk : WP Y X N (pc + 1) lv (.int (mm_or j) :: st) F A R G) : WP Y X N pc lv (.int i :: .float 2 :: st) F A R G := by
  obtain ⟨⟨p, l, e, Rm, s⟩, ⟨m, args, below, meth, c⟩, ⟨D, cy, b, xx⟩, k, N0, N1, Q⟩ := X
  intro ok hN0 H locs ls hl hP hS
  obtain ⟨o1, o2, o3, o4, o5, o6, o7, o8, o9, o10, o11, o12, o13⟩ := id ok
  obtain ⟨h1, h2⟩ := mm_nI_in hi hj (by decide)
  exact va_ti o1 o2 o10.2.2 hS h1 (by rw [h2]; rfl) hd (kk ok hN0 H locs ls hl hP hS)
theorem wp_tlen1 (hd : decode Y.2.1 pc = .ok (.arraylength, 1)) (kk : WP Y X N (pc + 1) lv (.int 5 :: st) F A R G) : WP Y X N pc lv (.float 1 :: st) F A R G := by
  obtain ⟨⟨p, l, e, Rm, s⟩, ⟨m, args, below, meth, c⟩, ⟨D, cy, b, xx⟩, k, N0, N1, Q⟩ := X
  intro ok hN0 H locs ls hl hP hS
  obtain ⟨o1, o2, o3, o4, o5, o6, o7, o8, o9, o10, o11, o12, o13⟩ := id ok
  exact va_tlen o1 o2 o10.1.2 hS rfl hd (kk ok hN0 H locs ls hl hP hS)
theorem wp_tlen2 (hd : decode Y.2.1 pc = .ok (.arraylength, 1)) (kk : WP Y X N (pc + 1) lv (.int 5 :: st) F A R G) : WP Y X N pc lv (.float 2 :: st) F A R G := by
  obtain ⟨⟨p, l, e, Rm, s⟩, ⟨m, args, below, meth, c⟩, ⟨D, cy, b, xx⟩, k, N0, N1, Q⟩ := X
  intro ok hN0 H locs ls hl hP hS
  obtain ⟨o1, o2, o3, o4, o5, o6, o7, o8, o9, o10, o11, o12, o13⟩ := id ok
  exact va_tlen o1 o2 o10.2.2 hS rfl hd (kk ok hN0 H locs ls hl hP hS)
end MMA
