/-! THE CLAIM OUT OF ONE WALK OF THE LAW'S BODY. Your part is whole_start (and what it stands on); all else here is the same for every law, but numbers. -/
def R_law : String := "CoconutShiesLaw"
def lw_P (b : Addr) (xs : List Int32) (args : Array Value) (s : State) : Prop := args = #[.ref b] ∧ s.IntsAt b xs ∧ xs.length ≤ 448 ∧ (Jvm.Cond.and given_1 narrow_1).before args s = true
def lw_Q (_ : Array Value) (s : State) (o : Outcome) (t : State) : Prop := o = .returned (some (.int 1)) ∧ Framed s o t [] 600000 7302250
def lw_Z (below : List Frame) (a : Array Value) (s : State) : State → Prop := fun t => ∃ o, t.status = .running ∧ Ended t below o ∧ lw_Q a s o t
/-- the law's own end, with 1 on the stack, nothing written that was there before, its room as the claim has it -/
theorem lw_ret {p : Program} {l : Launch} {e : Env} {s : State} {m : MethodId} {below : List Frame} {meth : Method} {c : Code} {b : Nat} (hx : p.tables.exec = Jvm.exec) (hb : c.code = code) (hr : meth.sig.returnType = ret) (hlocks : meth.locks = false) {pc : Nat} {H : Heap} {ls : Array Slot} (hdg : decode code pc = .ok (.ireturn, 1)) : W p l e room_1 s m #[Value.ref b] below meth c H [] 600000 7302250 (lw_Z below #[Value.ref b] s) (F0 m pc ls [.int 1]) := by
  intro T hT X
  obtain ⟨fs, hret, hrun, hended, hW, hframe⟩ := X.leave (v := some (.int 1)) (hlocks := hlocks) (fun h => by rw [hr] at h; cases h)
  have hmeth' : T.vm.method? m = some meth := X.method'
  refine ⟨T.setFrames fs, ?_, .returned (some (.int 1)), hrun, hended, rfl, ⟨_, rfl⟩, hW, hframe⟩
  jvm_step X.here [X.here.top, hx, hb, hdg, hmeth', hr, ret, narrow_b1]
  (try refine ⟨rfl, ?_⟩); (try refine ⟨rfl, ?_⟩)
  first | (intro acts; rw [hret _ acts rfl rfl rfl]) | rw [hret _ _ rfl rfl rfl]
  exact Steps.refl _
/-- what holds at the law's entry: the machine, the code, the tables' words (any of lw_tbl by 'hts w (by decide +kernel)'), the script of L ints xs at the cell b, what the Statement gives of the start (any of its parts by flat_of_before) -/
def lw_At (p : Program) (s : State) (m : MethodId) (meth : Method) (c : Code) (b L : Nat) (xs : Nat → Int32) : Prop :=
  p.tables.exec = Jvm.exec ∧ c.code = code ∧ meth.sig.returnType = ret ∧ c.maxLocals = 4 ∧ s.vm.findClass R_law = some m.cls ∧ (∀ w ∈ lw_tbl, w.before #[Value.ref b] s = true) ∧ va_X b L xs s s.heap ∧ b < s.heap.size ∧ meth.locks = false ∧ (Jvm.Cond.and given_1 narrow_1).before #[Value.ref b] s = true
theorem ws_arr {s : State} {args : Array Value} {ty : FieldType} (h : (Cond.arrayClass ty).before args s = true) : ∃ cA, s.vm.findClass ("[" ++ ty.toString) = some cA ∧ ArrOfT s cA ty := by
  obtain ⟨cA, kA, comp, h1, h2, h3⟩ := Cond.arrayClass_spec h
  exact ⟨cA, h1, fun n z => ⟨fun k h => (by cases h), kA, h2, comp, h3⟩⟩
theorem ws_fr {s t : State} {o : Outcome} {L : List Loc} {k n : Nat} (h : FrameEnd s o t L k n) (hL : ∀ q ∈ L, s.heap.size ≤ q.base) (hk : k ≤ 600000) (hn : n ≤ 7302250) (ho : ∃ v, o = .returned v) : Framed s o t [] 600000 7302250 := by
  obtain ⟨-, hW, h1, h2, h3, h4, h5, h6⟩ := h
  refine ⟨ho, hW, h1, h2, Nat.le_trans h3 (Nat.add_le_add_left hk _), h4, Nat.le_trans h5 hn, fun a c hc => ?_⟩
  obtain ⟨c', g1, g2, g3, g4⟩ := h6 a c hc
  refine ⟨c', g1, g2, g3, fun i _ => g4 i (fun hm => ?_)⟩
  have h7 := hL _ hm
  have h8 := (Array.getElem?_eq_some_iff.mp hc).1
  exact absurd h7 (Nat.not_le.mpr h8)


set_option maxHeartbeats 4000000 in
set_option maxRecDepth 100000 in
/-- YOUR PART: from the entry, for every script of at most 448 ints, the law comes to its end with true -/
theorem whole_start {p : Program} {e : Env} {s : State} {m : MethodId} {below : List Frame} {meth : Method} {c : Code} (l : Launch) {b L : Nat} {xs : Nat → Int32} (hL : L ≤ 448) (C0 : lw_At p s m meth c b L xs) : W p l e room_1 s m #[Value.ref b] below meth c s.heap [] 0 0 (lw_Z below #[Value.ref b] s) (entryFrame m ([Value.ref b] : List Value).toArray 4) := by
  obtain ⟨hx, hb, hr, hml, hown, hts, hX, hbl, hlocks, hgv⟩ := id C0
  have hbig : ∀ w ∈ mm_big, w.before #[Value.ref b] s = true := fun w hw => hts w (List.mem_filter.mp hw).1
  have hg := flat_of_before _ hgv
  have hA : ∀ a : Nat, a < s.heap.size → ¬ (fun q : Nat => s.heap.size ≤ q) a := fun a h => Nat.not_le.mpr h
  obtain ⟨c0, i0, K0⟩ := u_known (C := RX0) (T := TX0) (N := 3) (n := 3) hbig inX0 (hbig _ k_78)
  obtain ⟨c1, i1, K1⟩ := u_known (C := RX1) (T := TX1) (N := 14) (n := 14) hbig inX1 (hbig _ k_205)
  obtain ⟨c2, i2, K2⟩ := u_known (C := RX2) (T := TX2) (N := 4) (n := 4) hbig inX2 (hbig _ k_182)
  obtain ⟨c3, i3, K3⟩ := u_known (C := RX3) (T := TX3) (N := 5) (n := 5) hbig inX3 (hbig _ k_156)
  obtain ⟨c4, i4, K4⟩ := u_known (C := RX4) (T := TX4) (N := 3) (n := 3) hbig inX4 (hbig _ k_137)
  obtain ⟨c5, i5, K5⟩ := u_known (C := RX5) (T := TX5) (N := 4) (n := 4) hbig inX5 (hbig _ k_102)
  obtain ⟨c6, i6, K6⟩ := u_known (C := RX6) (T := TX6) (N := 2) (n := 2) hbig inX6 (hbig _ k_122)
  obtain ⟨c7, i7, K7⟩ := u_known (C := RX7) (T := TX7) (N := 7) (n := 7) hbig inX7 (hbig _ k_40)
  obtain ⟨c8, i8, K8⟩ := u_known (C := RX8) (T := TX8) (N := 2) (n := 2) hbig inX8 (hbig _ k_24)
  obtain ⟨c9, i9, K9⟩ := u_known (C := RX9) (T := TX9) (N := 11) (n := 11) hbig inX9 (hbig _ k_16)
  obtain ⟨c10, i10, K10⟩ := u_known (C := RX10) (T := TX10) (N := 41) (n := 41) hbig inX10 (hbig _ k_724)
  obtain ⟨dC, dI, hKc⟩ : ∃ (dC : Nat → ClassId) (dI : Nat → Nat → Nat), ∀ (k : Nat) (q : vw_C), vwCl[k]? = some q → u_Kn s q.1 q.2.1 q.2.2 (dC k) (dI k) := by
    refine ⟨fun k => if k = 0 then c0 else if k = 1 then c1 else if k = 2 then c2 else if k = 3 then c3 else if k = 4 then c4 else if k = 5 then c5 else if k = 6 then c6 else if k = 7 then c7 else if k = 8 then c8 else if k = 9 then c9 else c10, fun k => if k = 0 then i0 else if k = 1 then i1 else if k = 2 then i2 else if k = 3 then i3 else if k = 4 then i4 else if k = 5 then i5 else if k = 6 then i6 else if k = 7 then i7 else if k = 8 then i8 else if k = 9 then i9 else i10, ?_⟩
    intro k q hq
    match k, hq with
    | 0, hq => cases hq; exact K0
    | 1, hq => cases hq; exact K1
    | 2, hq => cases hq; exact K2
    | 3, hq => cases hq; exact K3
    | 4, hq => cases hq; exact K4
    | 5, hq => cases hq; exact K5
    | 6, hq => cases hq; exact K6
    | 7, hq => cases hq; exact K7
    | 8, hq => cases hq; exact K8
    | 9, hq => cases hq; exact K9
    | 10, hq => cases hq; exact K10
    | k + 11, hq => simp [vwCl] at hq
  obtain ⟨y0, hy0, ha0⟩ := ws_arr (hbig _ k_38)
  obtain ⟨y1, hy1, ha1⟩ := ws_arr (hbig _ k_135)
  have hao : (Cond.arrayOver (.object "CoconutShies$Stand")).before #[Value.ref b] s = true := hts _ (List.mem_append_right _ (List.mem_of_getElem? (i := 89) (by decide +kernel)))
  obtain ⟨comp, y2, kA, g1, g2, g3, g4, g5⟩ := Cond.arrayOver_spec hao
  have hK : va_K (dC, dI) vwCl (mm_tys (fun k => if k = 0 then y0 else if k = 1 then y1 else y2)) s := by
    refine ⟨hKc, fun k q hq => ?_⟩
    match k, hq with
    | 0, hq => cases hq; exact ⟨ha0, hy0⟩
    | 1, hq => cases hq; exact ⟨ha1, hy1⟩
    | 2, hq => cases hq; exact ⟨fun n z => ⟨fun k h => (by cases h), kA, g3, comp, g4⟩, kA, comp, g3, g4, g1, g5⟩
    | k + 3, hq => simp [mm_tys] at hq
  have hNW : mm_NW s := by
    refine ⟨fun q hq => va_Nw.of rfl (A := #[Value.ref b]) (hts _ (List.mem_append_right _ ?_)), va_AO.of hao⟩
    have hall : (mm_nest.all fun q => tables_1.contains (Cond.methodLinkNest q.1 q.2.1 q.2.2 "CoconutShies")) = true := by decide +kernel
    have := List.all_eq_true.mp hall q hq
    simpa using this
  obtain ⟨t1, hv1, hT1⟩ := va_Tof (args := #[Value.ref b]) (s := s) (tm := .static "CoconutShies" "HUNDREDS" "[I") (ty := .int) (N := 5) (f := fun j => .int (mm_hu j)) (A := fun q : Nat => s.heap.size ≤ q) (by decide) (hg _ (by decide +kernel)) (va_eqt (hg _ (by decide +kernel))) (fun j hj => by
    rcases (show j = 0 ∨ j = 1 ∨ j = 2 ∨ j = 3 ∨ j = 4 by omega) with rfl | rfl | rfl | rfl | rfl <;> exact va_eqt (hg _ (by decide +kernel))) hA
  obtain ⟨t2, hv2, hT2⟩ := va_Tof (args := #[Value.ref b]) (s := s) (tm := .static "CoconutShies" "ORDERS" "[I") (ty := .int) (N := 5) (f := fun j => .int (mm_or j)) (A := fun q : Nat => s.heap.size ≤ q) (by decide) (hg _ (by decide +kernel)) (va_eqt (hg _ (by decide +kernel))) (fun j hj => by
    rcases (show j = 0 ∨ j = 1 ∨ j = 2 ∨ j = 3 ∨ j = 4 by omega) with rfl | rfl | rfl | rfl | rfl <;> exact va_eqt (hg _ (by decide +kernel))) hA
  have hZ1 := va_Zref (C := "CoconutShies") (n := "HUNDREDS") (d := "[I") (hts _ (List.mem_append_right _ (List.mem_of_getElem? (i := 540) (by decide +kernel)))) (hbig _ k_1) hv1 hA
  have hZ2 := va_Zref (C := "CoconutShies") (n := "ORDERS") (d := "[I") (hts _ (List.mem_append_right _ (List.mem_of_getElem? (i := 611) (by decide +kernel)))) (hbig _ k_1) hv2 hA
  have hSF : mm_SF s.heap.size (fun k => if k = 0 then b else if k = 1 then t1 else t2) s s.heap := ⟨⟨hZ1, hT1⟩, hZ2, hT2⟩
  have hl := lv_entry ([.ref b]) (n := 4) (Nat.le_of_ble_eq_true rfl)
  rw [lg_entry_eq]
  generalize (lg_sl ([.ref b]) ++ List.replicate (4 - (lg_sl ([.ref b])).length) Slot.unset).toArray = ls at hl ⊢
  have hP : va_P (dC, dI) vwCl (mm_wl (fun k => if k = 0 then y0 else if k = 1 then y1 else y2) s.heap.size 0 (fun _ _ => 0) (fun _ _ => 0) (fun _ _ => none) (fun _ => 0)) s.heap := fun k q h => by simp [mm_wl] at h
  have K := law_wp (nm := meth.name) (l := l) (k := 100) (L := L) (xs := xs) (X := ⟨⟨p, l, e, room_1, s⟩, ⟨m, #[Value.ref b], below, meth, c⟩, ⟨(dC, dI), (fun k => if k = 0 then y0 else if k = 1 then y1 else y2), s.heap.size, (fun k => if k = 0 then b else if k = 1 then t1 else t2)⟩, 119, 0, 144, _⟩) ⟨rfl, rfl, rfl, rfl, rfl⟩ ⟨hX, hbl, hbl⟩ hL (F := fun _ _ => 0) (A := fun _ _ => 0) (R := fun _ _ => none) (G := fun _ => 0) (fun _ _ => rfl) (fun _ _ => rfl) (fun _ _ => rfl) (fun _ _ => rfl) ⟨hx, hb, hml, hr, hlocks, hown, hbig, hK, hNW, hSF, rfl, rfl, by decide, by decide, by decide, by decide +kernel⟩ (Nat.le_refl _) s.heap [] ls hl hP va_S.rf
  intro T hT Z
  obtain ⟨t, a1, o, b1, b2, ⟨⟨v, F1, A1, R1, G1, e1, e2, -⟩, -⟩, Lc, b4, b5⟩ := K T hT Z
  have e3 : v = some (.int 1) := e2
  subst e3
  refine ⟨t, a1, o, b1, b2, e1, ws_fr b4 b5 (by decide) (by decide +kernel) ⟨_, e1⟩⟩

set_option maxHeartbeats 4000000 in
theorem lw_walk (l : Launch) (b : Addr) (xs : List Int32) : MetFree l x (headSpec (Jvm.Cond.code x code maxLocals ret :: tables_1) room_1) (lw_P b xs) (fun _ _ _ _ _ => True) lw_Q := by
  refine MetFree.of_bodyS (code := code) (maxLocals := maxLocals) (ret := ret) (by decide) ?_ ?_
  · intro args s m h hn
    obtain ⟨meth, c, h1, h2, h3, h4, h5, h6, -, -⟩ := Cond.code_spec hn (atoms_spec (ws := Jvm.Cond.code x code maxLocals ret :: tables_1) h _ List.mem_cons_self)
    exact ⟨meth, c, h1, h2, h3, h4, h5, h6⟩
  · intro p e s m args below meth c s₁ B hml0 hP _
    obtain ⟨rfl, hx, hbd, hgv⟩ := hP
    obtain ⟨scr, harrAt, hlist, hof, hsmall⟩ := hx
    obtain ⟨hcb, hkn, -, -⟩ := State.arrayAt?_spec harrAt
    have hown : s.vm.findClass R_law = some m.cls := findClass_of_methodNamed B.named
    have hts0 : ∀ c ∈ (Jvm.Cond.code x code maxLocals ret :: tables_1), c.before #[Value.ref b] s = true := atoms_spec (ws := Jvm.Cond.code x code maxLocals ret :: tables_1) B.pre
    have hts : ∀ w ∈ lw_tbl, w.before #[Value.ref b] s = true := k2_hts_sels lw_privs (fun w hw => hts0 w (List.mem_cons_of_mem _ hw)) lw_privs_ok
    have hml : c.maxLocals = 4 := B.maxLocals_eq (hts0 _ List.mem_cons_self)
    have X₀ : Stand p l e room_1 s m #[Value.ref b] below meth c s₁ [] 0 0 := Stand.of_body B
    have hh0 : s₁.heap = s.heap := by rw [B.state]; rfl
    have hsz : scr.slots.size = xs.length := by rw [← Array.length_toList, hlist, List.length_map]
    have hval : ∀ j : Nat, j < xs.length → scr.slots[j]? = some (.int (xs.getD j 0)) := fun j hj => by
      rw [← Array.getElem?_toList, hlist]
      simp [hj]
    have hbl : b < s.heap.size := (Array.getElem?_eq_some_iff.mp hcb).1
    have hX : va_X b xs.length (fun j => xs.getD j 0) s s.heap := ⟨scr, hcb, hof, hkn, hsz, hval⟩
    have K : W p l e room_1 s m #[Value.ref b] below meth c s₁.heap [] 0 0 (lw_Z below #[Value.ref b] s) (entryFrame m ([Value.ref b] : List Value).toArray 4) := by
      rw [hh0]
      exact whole_start l hbd ⟨B.exec, B.bytes, B.returns, hml, hown, hts, hX, hbl, B.notSynchronized, hgv⟩
    obtain ⟨t, a1, o, b1, b2, b3⟩ := K s₁ rfl X₀
    exact ⟨t, o, a1, b1, b2, b3⟩
theorem lw_pre_spec {args : Array Value} {s : State} (h : (Jvm.Cond.and given_1 narrow_1).before args s = true) (hr : rest_1_c.before args s = true) : ∃ (b : Addr) (xs : List Int32), lw_P b xs args s := by
  have hs := flat_of_before _ h
  have hq := flat_of_before _ hr
  have hc : (Cond.count 1).before args s = true := hs _ (by decide +kernel)
  have harr : (Cond.arrayOf (.arg 0) .int).before args s = true := hs _ (by decide +kernel)
  have hle : (Cond.le (.length (.arg 0)) (.int 448)).before args s = true := hs _ (by decide +kernel)
  have hlen : (Cond.isInt (.length (.arg 0))).before args s = true := hq _ (by decide +kernel)
  have hall : (Cond.all (.arg 0) (.isInt (.elem (.arg 0) (.index 0)))).before args s = true := hq _ (by decide +kernel)
  obtain ⟨b, xs, hb, hx⟩ := State.ints_of_pre rfl harr hlen hall
  have hsm : xs.length < 2 ^ 31 := hx.choose_spec.2.2.2
  have hev : (Term.length (.arg 0)).eval args s none [] s = some (.int xs.length.toInt32) := hx.length_eval hb
  have hv := Cond.le_ints hev (show (Term.int 448).eval args s none [] s = some (.int 448) from rfl)
  have hd : xs.length.toInt32 ≤ 448 := by
    simpa [Cond.before, Cond.holds, hv] using hle
  have hN : xs.length ≤ 448 := (Int32.ofNat_le_ofNat hsm (by decide)).mp (show Int32.ofNat xs.length ≤ Int32.ofNat 448 from hd)
  exact ⟨b, xs, Cond.one_arg hc (show args[0]? = some (.ref b) from hb), hx, hN, h⟩
theorem lw_comes (l : Launch) : Comes l x (Jvm.Cond.code x code maxLocals ret :: tables_1) room_1 (fun tb e args s => Calls_1 tb e args s ∧ rest_1 tb e args s ∧ Pre_1 tb e args s)
    (fun _ _ args s o t => lw_Q args s o t) := by
  intro p e ha hc hk s m args below hf hfit hheap happ hpre
  obtain ⟨b, xs, hP⟩ := lw_pre_spec hpre.2.2 hpre.2.1
  obtain ⟨k, o, h1, h2, h3, hQ⟩ := lw_walk l b xs p e ha hc hk s m args below hf ((Spec.applies_iff_loose hf).mp happ).1 hP trivial
  exact ⟨k, o, h1, h2, h3, hQ⟩
theorem lw_frame {s t : State} {o : Outcome} {args : Array Value} (h : Framed s o t [] 600000 7302250) :
    Framed s o t (fieldLocs frame_1_writes args s ++ arrayLocs frame_1_arrays args s ++ staticLocs frame_1_statics s) 600000 7302250 := h
theorem lw_limb (L : Cond) (hL : ∀ (args : Array Value) (s t : State), L.after args s (.returned (some (.int 1))) t = true) :
    ArmFor flags0 classFile x code maxLocals ret World_1 tables_1 room_1 Calls_1 rest_1 Pre_1
      (fun tb e a s o t => postC L tb e a s o t ∧ Framed s o t (fieldLocs frame_1_writes a s ++ arrayLocs frame_1_arrays a s ++ staticLocs frame_1_statics s) 600000 7302250) := by
  intro l _ _ _ p e ha hc hk s m args below hf hfit hheap happ hpre
  obtain ⟨k, o, h1, h2, h3, rfl, hF⟩ := lw_comes l p e ha hc hk s m args below hf hfit hheap happ hpre
  exact ⟨k, _, h1, h2, h3, hL args s _, lw_frame hF⟩
theorem i_vc : Claimed_1_1 ∧ Claimed_1_2 := ⟨lw_limb limb_1_1 (fun args s t => by simp [limb_1_1, Cond.after, Cond.holds, Cond.value]), lw_limb limb_1_2 (fun args s t => Cond.after_iff.mpr (by
  first | (rw [show limb_1_2 = Cond.eq .result (.int 1) from rfl, Cond.eq_ints (x := 1) (y := 1) rfl rfl]; simp; done) | (simp [limb_1_2, Cond.value, Term.eval]; done)))⟩
