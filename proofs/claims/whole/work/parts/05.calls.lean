section MMC
variable {Y : mmY} {X : mmX} {N pc : Nat} {lv : List (Nat × Value)} {st : List Value} {F A : mmF} {R : mmR} {G : mmG} {l : Launch} {k N0 N1 : Nat} {post : mmP}
theorem mm_ret_ok {D : va_G} {cy : Nat → ClassId} {b : Nat} {x : Nat → Nat} {s : State} {H : Heap} {locs : List Loc} {args : Array Value} {v : Option Value} (h : post v F A R G) (hP : va_P D vwCl (mm_wl cy b N F A R G) H) (hS : va_S (fun q => b ≤ q) s.heap H locs) : ∀ t : State, t.heap = H → s.WarmedH t.vm → mm_Q D cy b x N post args s (.returned (v.map (mm_v b x))) t :=
  fun t ht _ => ⟨⟨v, F, A, R, G, rfl, h, by rw [ht]; exact hP⟩, hS.F ht⟩
theorem wp_iret {v : Int32} {ty : FieldType} (hC : mm_C l k N0 N post X) (hY : Y.2.2.2 = some ty) (hn : narrow ty (.int v) = .int v) (hd : decode Y.2.1 pc = .ok (.ireturn, 1)) (h : post (some (.int v)) F A R G) : WP Y X N pc lv [.int v] F A R G := by
  obtain ⟨⟨p, l, e, Rm, s⟩, ⟨m, args, below, meth, c⟩, ⟨D, cy, b, xx⟩, k, N0, N1, Q⟩ := X
  obtain ⟨rfl, rfl, rfl, rfl, rfl⟩ := hC
  intro ok hN0 H locs ls hl hP hS
  obtain ⟨o1, o2, o3, o4, o5, o6, o7, o8, o9⟩ := id ok
  exact W.zret (v := v) o1 o2 (o4.trans hY) hn (mm_ret_ok (v := some (.int v)) h hP hS) hS.2.2 hd o5
theorem wp_lret {v : Int64} (hC : mm_C l k N0 N post X) (hY : Y.2.2.2 = some .long) (hd : decode Y.2.1 pc = .ok (.lreturn, 1)) (h : post (some (.long v)) F A R G) : WP Y X N pc lv [.long v] F A R G := by
  obtain ⟨⟨p, l, e, Rm, s⟩, ⟨m, args, below, meth, c⟩, ⟨D, cy, b, xx⟩, k, N0, N1, Q⟩ := X
  obtain ⟨rfl, rfl, rfl, rfl, rfl⟩ := hC
  intro ok hN0 H locs ls hl hP hS
  obtain ⟨o1, o2, o3, o4, o5, o6, o7, o8, o9⟩ := id ok
  exact W.lret (v := v) o1 o2 (o4.trans hY) (mm_ret_ok (v := some (.long v)) h hP hS) hS.2.2 hd o5
theorem wp_vret (hC : mm_C l k N0 N post X) (hY : Y.2.2.2 = none) (hd : decode Y.2.1 pc = .ok (.return_, 1)) (h : post none F A R G) : WP Y X N pc lv [] F A R G := by
  obtain ⟨⟨p, l, e, Rm, s⟩, ⟨m, args, below, meth, c⟩, ⟨D, cy, b, xx⟩, k, N0, N1, Q⟩ := X
  obtain ⟨rfl, rfl, rfl, rfl, rfl⟩ := hC
  intro ok hN0 H locs ls hl hP hS
  obtain ⟨o1, o2, o3, o4, o5, o6, o7, o8, o9⟩ := id ok
  exact W.vret o1 o2 (o4.trans hY) (mm_ret_ok (v := none) h hP hS) hS.2.2 hd o5
theorem wp_aret {r : Nat} {t : FieldType} (hC : mm_C l k N0 N post X) (hY : Y.2.2.2 = some (.array t)) (hd : decode Y.2.1 pc = .ok (.areturn, 1)) (h : post (some (.ref r)) F A R G) : WP Y X N pc lv [.ref r] F A R G := by
  obtain ⟨⟨p, l, e, Rm, s⟩, ⟨m, args, below, meth, c⟩, ⟨D, cy, b, xx⟩, k, N0, N1, Q⟩ := X
  obtain ⟨rfl, rfl, rfl, rfl, rfl⟩ := hC
  intro ok hN0 H locs ls hl hP hS
  obtain ⟨o1, o2, o3, o4, o5, o6, o7, o8, o9⟩ := id ok
  exact W.aret (v := .ref (b + r)) o1 o2 (o4.trans hY) (Or.inr ⟨t, rfl⟩) (Or.inr ⟨_, rfl⟩) (mm_ret_ok (v := some (.ref r)) h hP hS) hS.2.2 hd o5
/-- the heap is just the roles' -/
theorem mm_size {p : Program} {l : Launch} {e : Env} {Rm : Room} {s : State} {m : MethodId} {args : Array Value} {below : List Frame} {meth : Method} {c : Code} {T : State} {H : Heap} {locs : List Loc} {n b N0 N : Nat} {D : va_G} {cy : Nat → ClassId} (hT : T.heap = H) (Z : Stand p l e Rm s m args below meth c T locs (N - N0) n) (h0 : s.heap.size = b + N0) (hN : N0 ≤ N) (hP : va_P D vwCl (mm_wl cy b N F A R G) H) (hS : va_S (fun q => b ≤ q) s.heap H locs) : H.size = b + N := by
  have h1 := Z.heapSize
  rw [hT, h0] at h1
  cases N with
  | zero => have := hS.1; omega
  | succ N =>
    have h2 := (hP N _ (mm_wl_get (Nat.lt_succ_self N))).lt
    have h3 : b + N < H.size := h2
    omega
theorem mm_blind {D : va_G} {cy : Nat → ClassId} {b : Nat} {x : Nat → Nat} {av : List Value} : FrameBlind (va_Pc av (mm_B D cy b x N F A R G)) := fun a U g mk ⟨q0, q1, q2, q3, q4, q5⟩ => ⟨q0, q1, q2, va_K.moved (u := U) (U := U.calling g mk a) (Vm.Alike.refl U.vm) q3, q4.same rfl, q5.moved (u := U) (U := U.calling g mk a) (Vm.Alike.refl U.vm)⟩
theorem mm_preU {D : va_G} {cy : Nat → ClassId} {b : Nat} {x : Nat → Nat} {s U : State} {H : Heap} {locs : List Loc} (hU : U.heap = H) (hW : s.WarmedH U.vm) (hsz : H.size = b + N) (hP : va_P D vwCl (mm_wl cy b N F A R G) H) (hK : va_K D vwCl (mm_tys cy) s) (hNW : mm_NW s) (hSF : mm_SF b x s s.heap) (hS : va_S (fun q => b ≤ q) s.heap H locs) : mm_B D cy b x N F A R G U :=
  ⟨by rw [hU]; exact hsz, by rw [hU]; exact hP, va_K.moved hW.alike hK, hNW.warm hW, (hSF.moved hW.alike).kept (fun a h1 h2 => by rw [hU]; exact hS.2.1 a h1 h2)⟩
/-- behind a call -/
theorem mm_behind {p : Program} {l : Launch} {e : Env} {Rm : Room} {s : State} {m : MethodId} {args : Array Value} {below : List Frame} {meth : Method} {c : Code} {H : Heap} {locs : List Loc} {cells slots : Nat} {Q : State → Prop} {D : va_G} {cy : Nat → ClassId} {b N' : Nat} {x : Nat → Nat} {ls : Array Slot} {rest st0 : List Value} {a : Array Value} {mc ms : Nat}
    (hr : va_Run p l e Rm s m args below meth c H locs cells slots mc ms (F0 m pc ls st0) rest (mm_Q D cy b x N' post a) (fun q => b ≤ q)) (hS : va_S (fun q => b ≤ q) s.heap H locs)
    (kk : ∀ (v : Option Value) (F1 A1 : mmF) (R1 : mmR) (G1 : mmG) (H1 : Heap) (locs1 : List Loc), post v F1 A1 R1 G1 → va_P D vwCl (mm_wl cy b N' F1 A1 R1 G1) H1 → va_S (fun q => b ≤ q) s.heap H1 locs1 → W p l e Rm s m args below meth c H1 locs1 (cells + mc) (slots + ms) Q (F0 m (pc + 3) ls ((v.map (mm_v b x)).toList ++ rest))) : W p l e Rm s m args below meth c H locs cells slots Q (F0 m pc ls st0) := by
  intro T hT Z
  obtain ⟨v, st₀, t, T', L, h0, Z', hL, e1, e2, ⟨⟨w, F1, A1, R1, G1, hv, hp, hP1⟩, hz, hk⟩, sg⟩ := hr T hT Z
  cases hv
  rw [h0] at hz hk
  obtain ⟨t2, a1, b1⟩ := kk w F1 A1 R1 G1 T'.heap (locs ++ L) hp (by rw [e1]; exact hP1)
    ⟨Nat.le_trans hS.1 (by rw [e1]; exact hz), fun q h1 h2 => by rw [e1, hk q (Nat.lt_of_lt_of_le h1 hS.1) h2]; exact hS.2.1 q h1 h2, fun q hq => by
      rcases List.mem_append.mp hq with h | h
      · exact hS.2.2 q h
      · exact hL q h⟩ T' rfl Z'
  exact ⟨t2, sg t2 a1, b1⟩
theorem mm_sl_mono : ∀ {a b : Nat}, a ≤ b → mm_sl a ≤ mm_sl b := by
  intro a b h
  induction h with
  | refl => exact Nat.le_refl _
  | step _ ih => exact Nat.le_trans ih (Nat.le_add_right _ _)
theorem mm_good {c : Cond} (hc : c ∈ mm_big) : GoodIn mm_big (c :: mm_big) := by
  intro w hw
  have h : w ∈ mm_big := by
    rcases List.mem_cons.mp hw with rfl | h
    · exact hc
    · exact h
  exact ⟨h, good_of_word (List.mem_filter.mp h).2⟩
/-- a call's site: what is owed of the tables for the callee Z called by the constant pool's entry idx; n: how many arguments -/
def mm_Ln (Z : mmY) (n : Nat) : Prop := Cond.code Z.1 Z.2.1 Z.2.2.1 Z.2.2.2 ∈ mm_big ∧ Cond.initialized Z.1.cls ∈ mm_big ∧ Z.1.cls ≠ "java/lang/invoke/MethodHandle" ∧ Z.1.cls ≠ "java/lang/invoke/VarHandle" ∧ (parseMethodDescriptor Z.1.desc).map (fun d => d.parameters.length) = some n ∧ Z.2.2.1 ≤ 40
def mm_LS (own : String) (idx : Nat) (Z : mmY) (n : Nat) : Prop := mm_Ln Z n ∧ Cond.methodLink own idx Z.1 ∈ mm_big ∧ Cond.static Z.1 ∈ mm_big
def mm_LV (own : String) (idx : Nat) (Z : mmY) (n : Nat) : Prop := mm_Ln Z n ∧ Cond.methodLink own idx Z.1 ∈ mm_big ∧ Cond.instanceMethod Z.1 ∈ mm_big ∧ Cond.selects Z.1.cls Z.1 Z.1 ∈ mm_big
def mm_LI (own : String) (idx : Nat) (Z : mmY) (n : Nat) : Prop := mm_Ln Z n ∧ Cond.methodLink own idx Z.1 ∈ mm_big ∧ Cond.instanceMethod Z.1 ∈ mm_big ∧ Z.1.name = "<init>"
def mm_LSN (own : String) (idx : Nat) (Z : mmY) (n : Nat) : Prop := mm_Ln Z n ∧ (own, idx, Z.1) ∈ mm_nest ∧ Cond.static Z.1 ∈ mm_big
def mm_LIN (own : String) (idx : Nat) (Z : mmY) (n : Nat) : Prop := mm_Ln Z n ∧ (own, idx, Z.1) ∈ mm_nest ∧ Cond.instanceMethod Z.1 ∈ mm_big ∧ Z.1.name = "<init>"
theorem mm_cat {b : Nat} {x : Nat → Nat} (st : List Value) : ((st.map (mm_v b x)).map fun v => v.category).sum = (st.map fun v => v.category).sum := by
  induction st with
  | nil => rfl
  | cons v st ih => simp only [List.map_cons, List.sum_cons, ih, mm_v_cat]
theorem mm_tl {b : Nat} {x : Nat → Nat} (v : Option Value) (st : List Value) : (v.map (mm_v b x)).toList ++ st.map (mm_v b x) = (v.toList ++ st).map (mm_v b x) := by cases v <;> rfl
theorem mm_rooms {k k' N N' N0 N1 maxL : Nat} {Rm : Room} (hR : k ≤ Rm.frames ∧ 64 * k ≤ Rm.locals ∧ N1 - N0 ≤ Rm.cells ∧ mm_sl N1 - mm_sl N0 ≤ Rm.slots) (hk : k' + 1 ≤ k) (hm : maxL ≤ 40) (h0 : N0 ≤ N) (h1 : N ≤ N') (h2 : N' ≤ N1) : ((mm_rm k' N N').frames + 1 ≤ Rm.frames ∧ 8 + (maxL + 11) + (mm_rm k' N N').locals ≤ Rm.locals) ∧ ((N - N0) + (N' - N) ≤ Rm.cells ∧ (mm_sl N - mm_sl N0) + (mm_sl N' - mm_sl N) ≤ Rm.slots) ∧ ((N - N0) + (N' - N) = N' - N0 ∧ (mm_sl N - mm_sl N0) + (mm_sl N' - mm_sl N) = mm_sl N' - mm_sl N0) := by
  have a1 := mm_sl_mono h0
  have a2 := mm_sl_mono h1
  have a3 := mm_sl_mono h2
  obtain ⟨r1, r2, r3, r4⟩ := hR
  refine ⟨⟨?_, ?_⟩, ⟨?_, ?_⟩, ?_, ?_⟩
  · show k' + 1 ≤ _; omega
  · show 8 + (maxL + 11) + 64 * k' ≤ _; omega
  · omega
  · omega
  · omega
  · omega
/-- what a call gives, whatever its kind -/
def mm_Site (Y : mmY) (X : mmX) (N pc : Nat) (lv : List (Nat × Value)) (st0 st : List Value) (Z : mmY) (av : List Value) (l : Launch) (k N1 : Nat) (F A : mmF) (R : mmR) (G : mmG) : Prop :=
  ∀ (k' N' : Nat) (pst : mmP), Meets l Z k' N N' av F A R G pst → k' + 1 ≤ k → N ≤ N' → N' ≤ N1 → (∀ v F1 A1 R1 G1, pst v F1 A1 R1 G1 → WP Y X N' (pc + 3) lv (v.toList ++ st) F1 A1 R1 G1) → WP Y X N pc lv st0 F A R G
theorem mm_siteS {idx n : Nat} {Z : mmY} {av : List Value} {st0 : List Value} (hC : mm_C l k N0 N1 post X) (hL : mm_LS Y.1.cls idx Z n) (hn : av.length = n) (hs : st0 = av.reverse ++ st) (hc : (st.map fun v => v.category).sum ≤ 8) (hd : decode Y.2.1 pc = .ok (.invokestatic idx, 3)) : mm_Site Y X N pc lv st0 st Z av l k N1 F A R G := by
  intro k' N' pst hM hk hN1 hN2 kk
  obtain ⟨⟨p, l, e, Rm, s⟩, ⟨m, args, below, meth, c⟩, ⟨D, cy, b, xx⟩, k, N0, N1, Q⟩ := X
  obtain ⟨rfl, rfl, rfl, rfl, rfl⟩ := hC
  intro ok hN0 H locs ls hl hP hS
  obtain ⟨o1, o2, o3, o4, o5, o6, o7, o8, o9, o10, o11, o12, o13⟩ := id ok
  obtain ⟨⟨l1, l2, l3, l4, l5, l6⟩, l7, l8⟩ := hL
  obtain ⟨r1, r2, r3, r4⟩ := mm_rooms o13 hk l6 hN0 hN1 hN2
  intro T hT U
  have hsz := mm_size hT U o12 hN0 hP hS
  have hG := mm_good l1
  have hcw : CallB Rm s args Y.1.cls idx Z.1 Z.2.1 Z.2.2.1 Z.2.2.2 (.code Z.1 Z.2.1 Z.2.2.1 Z.2.2.2 :: mm_big) (mm_rm k' N N') (N' - N) (mm_sl N' - mm_sl N) n := callB_of n o7 hG rfl rfl rfl (o7 _ l2) (o7 _ l7) ⟨l3, l4, l5⟩ r1
  have hrun := va_runS (e := e) (below := below) (meth := meth) (locs := locs) (H := H) (g := F0 m pc ls (st0.map (mm_v b xx))) (rest := st.map (mm_v b xx)) (Ts := mm_big) ⟨o1, o2, o3, o6, o7⟩ (hM D cy b xx) ⟨hcw, o7 _ l8⟩ ⟨mm_blind, fun U hU hW => ⟨rfl, mm_preU hU hW hsz hP o8 o9 o10 hS⟩⟩ rfl (by simpa using hn) hl.1 (by rw [hs]; simp) (by show 2 * 0 + _ ≤ 8; rw [mm_cat]; omega) hd r2
  refine mm_behind (p := p) (l := l) (e := e) (below := below) (meth := meth) hrun hS (fun v F1 A1 R1 G1 H1 locs1 h1 h2 h3 => ?_) T hT U
  rw [r3, r4, mm_tl]
  exact kk v F1 A1 R1 G1 h1 ok (Nat.le_trans hN0 hN1) H1 locs1 ls hl h2 h3
theorem mm_siteV {idx n r ci : Nat} {Z : mmY} {av : List Value} {st0 : List Value} (hC : mm_C l k N0 N1 post X) (hL : mm_LV Y.1.cls idx Z n) (hK : mm_K r = ci) (hr : r < N) (hci : ∃ q, vwCl[ci]? = some q ∧ q.1 = Z.1.cls) (hn : av.length = n) (hs : st0 = av.reverse ++ .ref r :: st) (hc : (st.map fun v => v.category).sum ≤ 8) (hd : decode Y.2.1 pc = .ok (.invokevirtual idx, 3)) : mm_Site Y X N pc lv st0 st Z (.ref r :: av) l k N1 F A R G := by
  intro k' N' pst hM hk hN1 hN2 kk
  obtain ⟨⟨p, l, e, Rm, s⟩, ⟨m, args, below, meth, c⟩, ⟨D, cy, b, xx⟩, k, N0, N1, Q⟩ := X
  obtain ⟨rfl, rfl, rfl, rfl, rfl⟩ := hC
  intro ok hN0 H locs ls hl hP hS
  obtain ⟨o1, o2, o3, o4, o5, o6, o7, o8, o9, o10, o11, o12, o13⟩ := id ok
  obtain ⟨⟨l1, l2, l3, l4, l5, l6⟩, l7, l8, l9⟩ := hL
  obtain ⟨r1, r2, r3, r4⟩ := mm_rooms o13 hk l6 hN0 hN1 hN2
  obtain ⟨q, hq1, hq2⟩ := hci
  intro T hT U
  have hsz := mm_size hT U o12 hN0 hP hS
  have hG := mm_good l1
  have hlt : ci < 11 := by have := (List.getElem?_eq_some_iff.mp hq1).1; simpa using this
  have hcw : CallB Rm s args Y.1.cls idx Z.1 Z.2.1 Z.2.2.1 Z.2.2.2 (.code Z.1 Z.2.1 Z.2.2.1 Z.2.2.2 :: mm_big) (mm_rm k' N N') (N' - N) (mm_sl N' - mm_sl N) n := callB_of n o7 hG rfl rfl rfl (o7 _ l2) (o7 _ l7) ⟨l3, l4, l5⟩ r1
  have hrv := va_recv o8 hP hq1 (q0 := r) (by rw [mm_wl_get hr, mm_cell_o hK hlt])
  rw [hq2] at hrv
  have hrun := va_runV (e := e) (below := below) (meth := meth) (locs := locs) (H := H) (b := b + r) (C := Z.1.cls) (g := F0 m pc ls (st0.map (mm_v b xx))) (rest := st.map (mm_v b xx)) (As := av.map (mm_v b xx)) (Ts := mm_big) ⟨o1, o2, o3, o6, o7⟩ (hM D cy b xx) ⟨hcw, o7 _ l8, o7 _ l9⟩ ⟨mm_blind, hrv, fun U hU hW => ⟨rfl, mm_preU hU hW hsz hP o8 o9 o10 hS⟩⟩ rfl (by simpa using hn) hl.1 (by rw [hs]; simp [mm_v]) (by show 2 * 0 + _ ≤ 8; rw [mm_cat]; omega) hd r2
  refine mm_behind (p := p) (l := l) (e := e) (below := below) (meth := meth) hrun hS (fun v F1 A1 R1 G1 H1 locs1 h1 h2 h3 => ?_) T hT U
  rw [r3, r4, mm_tl]
  exact kk v F1 A1 R1 G1 h1 ok (Nat.le_trans hN0 hN1) H1 locs1 ls hl h2 h3
theorem mm_siteI {idx n r : Nat} {Z : mmY} {av : List Value} {st0 : List Value} (hC : mm_C l k N0 N1 post X) (hZ : Z.2.2.2 = none) (hL : mm_LI Y.1.cls idx Z n) (hn : av.length = n) (hs : st0 = av.reverse ++ .ref r :: st) (hc : (st.map fun v => v.category).sum ≤ 8) (hd : decode Y.2.1 pc = .ok (.invokespecial idx, 3)) : mm_Site Y X N pc lv st0 st Z (.ref r :: av) l k N1 F A R G := by
  intro k' N' pst hM hk hN1 hN2 kk
  obtain ⟨⟨p, l, e, Rm, s⟩, ⟨m, args, below, meth, c⟩, ⟨D, cy, b, xx⟩, k, N0, N1, Q⟩ := X
  obtain ⟨rfl, rfl, rfl, rfl, rfl⟩ := hC
  intro ok hN0 H locs ls hl hP hS
  obtain ⟨o1, o2, o3, o4, o5, o6, o7, o8, o9, o10, o11, o12, o13⟩ := id ok
  obtain ⟨⟨l1, l2, l3, l4, l5, l6⟩, l7, l8, l9⟩ := hL
  obtain ⟨r1, r2, r3, r4⟩ := mm_rooms o13 hk l6 hN0 hN1 hN2
  intro T hT U
  have hsz := mm_size hT U o12 hN0 hP hS
  have hG := mm_good l1
  obtain ⟨y, cc, nL, ret⟩ := Z
  dsimp only at hZ
  subst hZ
  have hcw : CallB Rm s args Y.1.cls idx y cc nL none (.code y cc nL none :: mm_big) (mm_rm k' N N') (N' - N) (mm_sl N' - mm_sl N) n := callB_of n o7 hG rfl rfl rfl (o7 _ l2) (o7 _ l7) ⟨l3, l4, l5⟩ r1
  have hrun := va_runI (e := e) (below := below) (meth := meth) (locs := locs) (H := H) (b := b + r) (g := F0 m pc ls (st0.map (mm_v b xx))) (rest := st.map (mm_v b xx)) (As := av.map (mm_v b xx)) (Ts := mm_big) ⟨o1, o2, o3, o6, o7⟩ (hM D cy b xx) ⟨hcw, l9, o7 _ l8⟩ ⟨mm_blind, fun U hU hW => ⟨rfl, mm_preU hU hW hsz hP o8 o9 o10 hS⟩⟩ rfl (by simpa using hn) hl.1 (by rw [hs]; simp [mm_v]) (by show 2 * 0 + _ ≤ 8; rw [mm_cat]; omega) hd r2
  refine mm_behind (p := p) (l := l) (e := e) (below := below) (meth := meth) hrun hS (fun v F1 A1 R1 G1 H1 locs1 h1 h2 h3 => ?_) T hT U
  rw [r3, r4, mm_tl]
  exact kk v F1 A1 R1 G1 h1 ok (Nat.le_trans hN0 hN1) H1 locs1 ls hl h2 h3
theorem mm_siteSN {idx n : Nat} {Z : mmY} {av : List Value} {st0 : List Value} (hC : mm_C l k N0 N1 post X) (hL : mm_LSN Y.1.cls idx Z n) (hn : av.length = n) (hs : st0 = av.reverse ++ st) (hc : (st.map fun v => v.category).sum ≤ 8) (hd : decode Y.2.1 pc = .ok (.invokestatic idx, 3)) : mm_Site Y X N pc lv st0 st Z av l k N1 F A R G := by
  intro k' N' pst hM hk hN1 hN2 kk
  obtain ⟨⟨p, l, e, Rm, s⟩, ⟨m, args, below, meth, c⟩, ⟨D, cy, b, xx⟩, k, N0, N1, Q⟩ := X
  obtain ⟨rfl, rfl, rfl, rfl, rfl⟩ := hC
  intro ok hN0 H locs ls hl hP hS
  obtain ⟨o1, o2, o3, o4, o5, o6, o7, o8, o9, o10, o11, o12, o13⟩ := id ok
  obtain ⟨⟨l1, l2, l3, l4, l5, l6⟩, l7, l8⟩ := hL
  obtain ⟨r1, r2, r3, r4⟩ := mm_rooms o13 hk l6 hN0 hN1 hN2
  intro T hT U
  have hsz := mm_size hT U o12 hN0 hP hS
  have hG := mm_good l1
  have hcw : va_CN Rm s args Y.1.cls idx Z.1 "CoconutShies" Z.2.1 Z.2.2.1 Z.2.2.2 (.code Z.1 Z.2.1 Z.2.2.1 Z.2.2.2 :: mm_big) (mm_rm k' N N') (N' - N) (mm_sl N' - mm_sl N) n := va_cnB n o7 hG rfl rfl rfl (o9.1 _ l7) (o7 _ l2) ⟨l3, l4, l5⟩ r1
  have hrun := va_runSN (e := e) (below := below) (meth := meth) (locs := locs) (H := H) (g := F0 m pc ls (st0.map (mm_v b xx))) (rest := st.map (mm_v b xx)) (Ts := mm_big) ⟨o1, o2, o3, o6, o7⟩ (hM D cy b xx) ⟨hcw, o7 _ l8, trivial⟩ ⟨mm_blind, fun U hU hW => ⟨rfl, mm_preU hU hW hsz hP o8 o9 o10 hS⟩⟩ rfl (by simpa using hn) hl.1 (by rw [hs]; simp) (by show 2 * 0 + _ ≤ 8; rw [mm_cat]; omega) hd r2
  refine mm_behind (p := p) (l := l) (e := e) (below := below) (meth := meth) hrun hS (fun v F1 A1 R1 G1 H1 locs1 h1 h2 h3 => ?_) T hT U
  rw [r3, r4, mm_tl]
  exact kk v F1 A1 R1 G1 h1 ok (Nat.le_trans hN0 hN1) H1 locs1 ls hl h2 h3
theorem mm_siteIN {idx n r : Nat} {Z : mmY} {av : List Value} {st0 : List Value} (hC : mm_C l k N0 N1 post X) (hZ : Z.2.2.2 = none) (hL : mm_LIN Y.1.cls idx Z n) (hn : av.length = n) (hs : st0 = av.reverse ++ .ref r :: st) (hc : (st.map fun v => v.category).sum ≤ 8) (hd : decode Y.2.1 pc = .ok (.invokespecial idx, 3)) : mm_Site Y X N pc lv st0 st Z (.ref r :: av) l k N1 F A R G := by
  intro k' N' pst hM hk hN1 hN2 kk
  obtain ⟨⟨p, l, e, Rm, s⟩, ⟨m, args, below, meth, c⟩, ⟨D, cy, b, xx⟩, k, N0, N1, Q⟩ := X
  obtain ⟨rfl, rfl, rfl, rfl, rfl⟩ := hC
  intro ok hN0 H locs ls hl hP hS
  obtain ⟨o1, o2, o3, o4, o5, o6, o7, o8, o9, o10, o11, o12, o13⟩ := id ok
  obtain ⟨⟨l1, l2, l3, l4, l5, l6⟩, l7, l8, l9⟩ := hL
  obtain ⟨r1, r2, r3, r4⟩ := mm_rooms o13 hk l6 hN0 hN1 hN2
  intro T hT U
  have hsz := mm_size hT U o12 hN0 hP hS
  have hG := mm_good l1
  obtain ⟨y, cc, nL, ret⟩ := Z
  dsimp only at hZ
  subst hZ
  have hcw : va_CN Rm s args Y.1.cls idx y "CoconutShies" cc nL none (.code y cc nL none :: mm_big) (mm_rm k' N N') (N' - N) (mm_sl N' - mm_sl N) n := va_cnB n o7 hG rfl rfl rfl (o9.1 _ l7) (o7 _ l2) ⟨l3, l4, l5⟩ r1
  have hrun := va_runIN (e := e) (below := below) (meth := meth) (locs := locs) (H := H) (b := b + r) (g := F0 m pc ls (st0.map (mm_v b xx))) (rest := st.map (mm_v b xx)) (As := av.map (mm_v b xx)) (Ts := mm_big) ⟨o1, o2, o3, o6, o7⟩ (hM D cy b xx) ⟨hcw, l9, o7 _ l8⟩ ⟨mm_blind, fun U hU hW => ⟨rfl, mm_preU hU hW hsz hP o8 o9 o10 hS⟩⟩ rfl (by simpa using hn) hl.1 (by rw [hs]; simp [mm_v]) (by show 2 * 0 + _ ≤ 8; rw [mm_cat]; omega) hd r2
  refine mm_behind (p := p) (l := l) (e := e) (below := below) (meth := meth) hrun hS (fun v F1 A1 R1 G1 H1 locs1 h1 h2 h3 => ?_) T hT U
  rw [r3, r4, mm_tl]
  exact kk v F1 A1 R1 G1 h1 ok (Nat.le_trans hN0 hN1) H1 locs1 ls hl h2 h3
/-- the kinds of post: a number and nothing changed; a number; nothing -/
def pP (e : Int32) (F A : mmF) (R : mmR) (G : mmG) : mmP := fun v F1 A1 R1 G1 => v = some (.int e) ∧ F1 = F ∧ A1 = A ∧ R1 = R ∧ G1 = G
def pI (Pi : Int32 → mmF → mmF → mmR → mmG → Prop) : mmP := fun v F1 A1 R1 G1 => ∃ r, v = some (.int r) ∧ Pi r F1 A1 R1 G1
def pV (Pv : mmF → mmF → mmR → mmG → Prop) : mmP := fun v F1 A1 R1 G1 => v = none ∧ Pv F1 A1 R1 G1
theorem wp_callP {Z : mmY} {av st0 : List Value} {k' : Nat} {e : Int32} (hs : mm_Site Y X N pc lv st0 st Z av l k N1 F A R G) (hM : Meets l Z k' N N av F A R G (pP e F A R G)) (hk : k' + 1 ≤ k) (hN : N ≤ N1) (kk : WP Y X N (pc + 3) lv (.int e :: st) F A R G) : WP Y X N pc lv st0 F A R G :=
  hs _ _ _ hM hk (Nat.le_refl _) hN (fun v F1 A1 R1 G1 ⟨h1, h2, h3, h4, h5⟩ => by subst h1 h2 h3 h4 h5; exact kk)
theorem wp_callI {Z : mmY} {av st0 : List Value} {k' : Nat} {Pi : Int32 → mmF → mmF → mmR → mmG → Prop} (hs : mm_Site Y X N pc lv st0 st Z av l k N1 F A R G) (hM : Meets l Z k' N N av F A R G (pI Pi)) (hk : k' + 1 ≤ k) (hN : N ≤ N1) (kk : ∀ r F1 A1 R1 G1, Pi r F1 A1 R1 G1 → WP Y X N (pc + 3) lv (.int r :: st) F1 A1 R1 G1) : WP Y X N pc lv st0 F A R G :=
  hs _ _ _ hM hk (Nat.le_refl _) hN (fun v F1 A1 R1 G1 ⟨r, h1, h2⟩ => by subst h1; exact kk r F1 A1 R1 G1 h2)
theorem wp_callV {Z : mmY} {av st0 : List Value} {k' N' : Nat} {Pv : mmF → mmF → mmR → mmG → Prop} (hs : mm_Site Y X N pc lv st0 st Z av l k N1 F A R G) (hM : Meets l Z k' N N' av F A R G (pV Pv)) (hk : k' + 1 ≤ k) (hN1 : N ≤ N') (hN : N' ≤ N1) (kk : ∀ F1 A1 R1 G1, Pv F1 A1 R1 G1 → WP Y X N' (pc + 3) lv st F1 A1 R1 G1) : WP Y X N pc lv st0 F A R G :=
  hs _ _ _ hM hk hN1 hN (fun v F1 A1 R1 G1 ⟨h1, h2⟩ => by subst h1; exact kk F1 A1 R1 G1 h2)
end MMC
