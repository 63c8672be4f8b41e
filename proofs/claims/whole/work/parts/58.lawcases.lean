abbrev hL_law (nm : String) : mmY := (⟨RL, nm, "([I)Z"⟩, cL_law, 4, ret)
def pT : mmP := fun v _ _ _ _ => v = some (.int 1)
theorem lg_cmp_self (x : Int64) : lg_cmp x x = 0 := by unfold lg_cmp; simp
section MKL
variable {Y : mmY} {X : mmX} {N pc : Nat} {lv : List (Nat × Value)} {st : List Value} {F A : mmF} {R : mmR} {G : mmG} {l : Launch} {k N1 : Nat}
theorem wp_callL {Z : mmY} {av st0 : List Value} {k' : Nat} {Pi : Int64 → mmF → mmF → mmR → mmG → Prop} (hs : mm_Site Y X N pc lv st0 st Z av l k N1 F A R G) (hM : Meets l Z k' N N av F A R G (pL Pi)) (hk : k' + 1 ≤ k) (hN : N ≤ N1) (kk : ∀ r F1 A1 R1 G1, Pi r F1 A1 R1 G1 → WP Y X N (pc + 3) lv (.long r :: st) F1 A1 R1 G1) : WP Y X N pc lv st0 F A R G :=
  hs _ _ _ hM hk (Nat.le_refl _) hN (fun v F1 A1 R1 G1 ⟨r, h1, h2⟩ => by subst h1; exact kk r F1 A1 R1 G1 h2)
end MKL
def lwK (nm : String) (X : mmX) (i : Nat) : Prop := ∀ (F A : mmF) (R : mmR) (G : mmG) (Q : QV), RepX F A R G Q → RepM F A R G Q → wfR Q → WP (hL_law nm) X 144 1085 [(0, .float 0), (1, .ref 0), (2, .ref 123), (3, .int (nI i))] [] F A R G

set_option maxRecDepth 100000 in
set_option maxHeartbeats 600000 in
theorem law_write {nm : String} {X : mmX} {l : Launch} {k L i : Nat} {xs : Nat → Int32} (hC : mm_C l (k + 19) 0 144 pT X) (hs : mm_scr L xs X) (hL : L ≤ 448) (hi : i + 7 ≤ L) {F A : mmF} {R : mmR} {G : mmG} {Q : QV} (hX : RepX F A R G Q) (hM : RepM F A R G Q) (hW : wfR Q) (kk : lwK nm X i) : WP (hL_law nm) X 144 168 [(0, .float 0), (1, .ref 0), (2, .ref 123), (3, .int (nI i))] [] F A R G := by
  refine wp_aload_n dL_law_168 rfl 1 rfl ?_
  refine wp_xload_n dL_law_169 rfl 0 rfl ?_
  refine wp_iload_n dL_law_170 rfl 3 rfl ?_
  refine wp_iconst (v := 1) dL_law_171 (by decide) ?_
  refine wp_iadd dL_law_172 ?_
  refine wp_sld hs (by omega) (i + 1) (ix_add rfl rfl) (by omega) dL_law_173 ?_
  refine wp_callI (mm_siteV (av := [.int (xs (i + 1))]) hC lL_13 (rfl) (by decide) ⟨_, rfl, rfl⟩ rfl rfl (Nat.le_of_ble_eq_true rfl) dL_law_174) (c_X9_write l (k + 17) _ _ _ _ _ Q hX hW.1) (by omega) (by decide) (fun r1 F1 A1 R1 G1 hq => ?_)
  obtain ⟨v1, hX1, f1⟩ := hq
  have hM1 := hM.cong f1 hX1.rl
  refine wp_aload_n dL_law_177 rfl 2 rfl ?_
  refine wp_xload_n dL_law_178 rfl 0 rfl ?_
  refine wp_iload_n dL_law_179 rfl 3 rfl ?_
  refine wp_iconst (v := 1) dL_law_180 (by decide) ?_
  refine wp_iadd dL_law_181 ?_
  refine wp_sld hs (by omega) (i + 1) (ix_add rfl rfl) (by omega) dL_law_182 ?_
  refine wp_callI (mm_siteV (av := [.int (xs (i + 1))]) hC lL_17 (rfl) (by decide) ⟨_, rfl, rfl⟩ rfl rfl (Nat.le_of_ble_eq_true rfl) dL_law_183) (c_X10_write l (k + 17) _ _ _ _ _ Q hM1 hW.1) (by omega) (by decide) (fun r2 F2 A2 R2 G2 hq => ?_)
  obtain ⟨v2, hM2, f2⟩ := hq
  have hX2 := hX1.cong f2 hM2.rl
  refine wp_icmp_eq 1085 dL_law_186 (by decide) (fun c1 => ?_) (fun c1 => ?_)
  · exact kk _ _ _ _ _ hX2 hM2 (wfR_write hW)
  · exact absurd ((v1).trans v2.symm) c1

set_option maxRecDepth 100000 in
set_option maxHeartbeats 600000 in
theorem law_wipe {nm : String} {X : mmX} {l : Launch} {k L i : Nat} {xs : Nat → Int32} (hC : mm_C l (k + 19) 0 144 pT X) (hs : mm_scr L xs X) (hL : L ≤ 448) (hi : i + 7 ≤ L) {F A : mmF} {R : mmR} {G : mmG} {Q : QV} (hX : RepX F A R G Q) (hM : RepM F A R G Q) (hW : wfR Q) (kk : lwK nm X i) : WP (hL_law nm) X 144 191 [(0, .float 0), (1, .ref 0), (2, .ref 123), (3, .int (nI i))] [] F A R G := by
  refine wp_aload_n dL_law_191 rfl 1 rfl ?_
  refine wp_callI (mm_siteV (av := []) hC lL_18 (rfl) (by decide) ⟨_, rfl, rfl⟩ rfl rfl (Nat.le_of_ble_eq_true rfl) dL_law_192) (c_X9_wipe l (k + 18) _ _ _ _ Q hX hW.1) (by omega) (by decide) (fun r1 F1 A1 R1 G1 hq => ?_)
  obtain ⟨v1, hX1, f1⟩ := hq
  have hM1 := hM.cong f1 hX1.rl
  refine wp_aload_n dL_law_195 rfl 2 rfl ?_
  refine wp_callI (mm_siteV (av := []) hC lL_22 (rfl) (by decide) ⟨_, rfl, rfl⟩ rfl rfl (Nat.le_of_ble_eq_true rfl) dL_law_196) (c_X10_wipe l (k + 18) _ _ _ _ Q hM1 hW.1) (by omega) (by decide) (fun r2 F2 A2 R2 G2 hq => ?_)
  obtain ⟨v2, hM2, f2⟩ := hq
  have hX2 := hX1.cong f2 hM2.rl
  refine wp_icmp_eq 1085 dL_law_199 (by decide) (fun c1 => ?_) (fun c1 => ?_)
  · exact kk _ _ _ _ _ hX2 hM2 (wfR_wipe hW)
  · exact absurd ((v1).trans v2.symm) c1

set_option maxRecDepth 100000 in
set_option maxHeartbeats 600000 in
theorem law_fault {nm : String} {X : mmX} {l : Launch} {k L i : Nat} {xs : Nat → Int32} (hC : mm_C l (k + 19) 0 144 pT X) (hs : mm_scr L xs X) (hL : L ≤ 448) (hi : i + 7 ≤ L) {F A : mmF} {R : mmR} {G : mmG} {Q : QV} (hX : RepX F A R G Q) (hM : RepM F A R G Q) (hW : wfR Q) (kk : lwK nm X i) : WP (hL_law nm) X 144 204 [(0, .float 0), (1, .ref 0), (2, .ref 123), (3, .int (nI i))] [] F A R G := by
  refine wp_aload_n dL_law_204 rfl 1 rfl ?_
  refine wp_callI (mm_siteV (av := []) hC lL_23 (rfl) (by decide) ⟨_, rfl, rfl⟩ rfl rfl (Nat.le_of_ble_eq_true rfl) dL_law_205) (c_X9_fault l (k + 13) _ _ _ _ Q hX hW.1) (by omega) (by decide) (fun r1 F1 A1 R1 G1 hq => ?_)
  obtain ⟨v1, hX1, f1⟩ := hq
  have hM1 := hM.cong f1 hX1.rl
  refine wp_aload_n dL_law_208 rfl 2 rfl ?_
  refine wp_callI (mm_siteV (av := []) hC lL_26 (rfl) (by decide) ⟨_, rfl, rfl⟩ rfl rfl (Nat.le_of_ble_eq_true rfl) dL_law_209) (c_X10_fault l (k + 13) _ _ _ _ Q hM1 hW.1) (by omega) (by decide) (fun r2 F2 A2 R2 G2 hq => ?_)
  obtain ⟨v2, hM2, f2⟩ := hq
  have hX2 := hX1.cong f2 hM2.rl
  refine wp_icmp_eq 1085 dL_law_212 (by decide) (fun c1 => ?_) (fun c1 => ?_)
  · exact kk _ _ _ _ _ hX2 hM2 hW
  · exact absurd ((v1).trans v2.symm) c1

set_option maxRecDepth 100000 in
set_option maxHeartbeats 600000 in
theorem law_fair {nm : String} {X : mmX} {l : Launch} {k L i : Nat} {xs : Nat → Int32} (hC : mm_C l (k + 19) 0 144 pT X) (hs : mm_scr L xs X) (hL : L ≤ 448) (hi : i + 7 ≤ L) {F A : mmF} {R : mmR} {G : mmG} {Q : QV} (hX : RepX F A R G Q) (hM : RepM F A R G Q) (hW : wfR Q) (kk : lwK nm X i) : WP (hL_law nm) X 144 217 [(0, .float 0), (1, .ref 0), (2, .ref 123), (3, .int (nI i))] [] F A R G := by
  refine wp_aload_n dL_law_217 rfl 1 rfl ?_
  refine wp_callI (mm_siteV (av := []) hC lL_27 (rfl) (by decide) ⟨_, rfl, rfl⟩ rfl rfl (Nat.le_of_ble_eq_true rfl) dL_law_218) (c_X9_fair l (k + 13) _ _ _ _ Q hX hW.1) (by omega) (by decide) (fun r1 F1 A1 R1 G1 hq => ?_)
  obtain ⟨v1, hX1, f1⟩ := hq
  have hM1 := hM.cong f1 hX1.rl
  refine wp_aload_n dL_law_221 rfl 2 rfl ?_
  refine wp_callI (mm_siteV (av := []) hC lL_30 (rfl) (by decide) ⟨_, rfl, rfl⟩ rfl rfl (Nat.le_of_ble_eq_true rfl) dL_law_222) (c_X10_fair l (k + 13) _ _ _ _ Q hM1 hW.1) (by omega) (by decide) (fun r2 F2 A2 R2 G2 hq => ?_)
  obtain ⟨v2, hM2, f2⟩ := hq
  have hX2 := hX1.cong f2 hM2.rl
  refine wp_icmp_eq 1085 dL_law_225 (by decide) (fun c1 => ?_) (fun c1 => ?_)
  · exact kk _ _ _ _ _ hX2 hM2 (wfR_fair hW)
  · exact absurd ((v1).trans v2.symm) c1

set_option maxRecDepth 100000 in
set_option maxHeartbeats 600000 in
theorem law_about {nm : String} {X : mmX} {l : Launch} {k L i : Nat} {xs : Nat → Int32} (hC : mm_C l (k + 19) 0 144 pT X) (hs : mm_scr L xs X) (hL : L ≤ 448) (hi : i + 7 ≤ L) {F A : mmF} {R : mmR} {G : mmG} {Q : QV} (hX : RepX F A R G Q) (hM : RepM F A R G Q) (hW : wfR Q) (kk : lwK nm X i) : WP (hL_law nm) X 144 230 [(0, .float 0), (1, .ref 0), (2, .ref 123), (3, .int (nI i))] [] F A R G := by
  refine wp_aload_n dL_law_230 rfl 1 rfl ?_
  refine wp_xload_n dL_law_231 rfl 0 rfl ?_
  refine wp_iload_n dL_law_232 rfl 3 rfl ?_
  refine wp_iconst (v := 1) dL_law_233 (by decide) ?_
  refine wp_iadd dL_law_234 ?_
  refine wp_sld hs (by omega) (i + 1) (ix_add rfl rfl) (by omega) dL_law_235 ?_
  refine wp_callP (mm_siteV (av := [.int (xs (i + 1))]) hC lL_31 (rfl) (by decide) ⟨_, rfl, rfl⟩ rfl rfl (Nat.le_of_ble_eq_true rfl) dL_law_236) (c_X9_about l (k + 18) _ _ _ _ _ Q hX hW.1) (by omega) (by decide) ?_
  refine wp_aload_n dL_law_239 rfl 2 rfl ?_
  refine wp_xload_n dL_law_240 rfl 0 rfl ?_
  refine wp_iload_n dL_law_241 rfl 3 rfl ?_
  refine wp_iconst (v := 1) dL_law_242 (by decide) ?_
  refine wp_iadd dL_law_243 ?_
  refine wp_sld hs (by omega) (i + 1) (ix_add rfl rfl) (by omega) dL_law_244 ?_
  refine wp_callI (mm_siteV (av := [.int (xs (i + 1))]) hC lL_34 (rfl) (by decide) ⟨_, rfl, rfl⟩ rfl rfl (Nat.le_of_ble_eq_true rfl) dL_law_245) (c_X10_about l (k + 18) _ _ _ _ _ Q hM hW.1) (by omega) (by decide) (fun r2 F2 A2 R2 G2 hq => ?_)
  obtain ⟨v2, hM2, f2⟩ := hq
  have hX2 := hX.cong f2 hM2.rl
  refine wp_icmp_eq 1085 dL_law_248 (by decide) (fun c1 => ?_) (fun c1 => ?_)
  · exact kk _ _ _ _ _ hX2 hM2 hW
  · exact absurd ((rfl).trans v2.symm) c1

set_option maxRecDepth 100000 in
set_option maxHeartbeats 600000 in
theorem law_husk {nm : String} {X : mmX} {l : Launch} {k L i : Nat} {xs : Nat → Int32} (hC : mm_C l (k + 19) 0 144 pT X) (hs : mm_scr L xs X) (hL : L ≤ 448) (hi : i + 7 ≤ L) {F A : mmF} {R : mmR} {G : mmG} {Q : QV} (hX : RepX F A R G Q) (hM : RepM F A R G Q) (hW : wfR Q) (kk : lwK nm X i) : WP (hL_law nm) X 144 253 [(0, .float 0), (1, .ref 0), (2, .ref 123), (3, .int (nI i))] [] F A R G := by
  refine wp_aload_n dL_law_253 rfl 1 rfl ?_
  refine wp_xload_n dL_law_254 rfl 0 rfl ?_
  refine wp_iload_n dL_law_255 rfl 3 rfl ?_
  refine wp_iconst (v := 1) dL_law_256 (by decide) ?_
  refine wp_iadd dL_law_257 ?_
  refine wp_sld hs (by omega) (i + 1) (ix_add rfl rfl) (by omega) dL_law_258 ?_
  refine wp_xload_n dL_law_259 rfl 0 rfl ?_
  refine wp_iload_n dL_law_260 rfl 3 rfl ?_
  refine wp_iconst (v := 2) dL_law_261 (by decide) ?_
  refine wp_iadd dL_law_262 ?_
  refine wp_sld hs (by omega) (i + 2) (ix_add rfl rfl) (by omega) dL_law_263 ?_
  refine wp_callP (mm_siteV (av := [.int (xs (i + 1)), .int (xs (i + 2))]) hC lL_35 (rfl) (by decide) ⟨_, rfl, rfl⟩ rfl rfl (Nat.le_of_ble_eq_true rfl) dL_law_264) (c_X9_husk l (k + 16) _ _ _ _ _ _ Q hX hW.1) (by omega) (by decide) ?_
  refine wp_aload_n dL_law_267 rfl 2 rfl ?_
  refine wp_xload_n dL_law_268 rfl 0 rfl ?_
  refine wp_iload_n dL_law_269 rfl 3 rfl ?_
  refine wp_iconst (v := 1) dL_law_270 (by decide) ?_
  refine wp_iadd dL_law_271 ?_
  refine wp_sld hs (by omega) (i + 1) (ix_add rfl rfl) (by omega) dL_law_272 ?_
  refine wp_xload_n dL_law_273 rfl 0 rfl ?_
  refine wp_iload_n dL_law_274 rfl 3 rfl ?_
  refine wp_iconst (v := 2) dL_law_275 (by decide) ?_
  refine wp_iadd dL_law_276 ?_
  refine wp_sld hs (by omega) (i + 2) (ix_add rfl rfl) (by omega) dL_law_277 ?_
  refine wp_callI (mm_siteV (av := [.int (xs (i + 1)), .int (xs (i + 2))]) hC lL_39 (rfl) (by decide) ⟨_, rfl, rfl⟩ rfl rfl (Nat.le_of_ble_eq_true rfl) dL_law_278) (c_X10_husk l (k + 16) _ _ _ _ _ _ Q hM hW.1) (by omega) (by decide) (fun r2 F2 A2 R2 G2 hq => ?_)
  obtain ⟨v2, hM2, f2⟩ := hq
  have hX2 := hX.cong f2 hM2.rl
  refine wp_icmp_eq 1085 dL_law_281 (by decide) (fun c1 => ?_) (fun c1 => ?_)
  · exact kk _ _ _ _ _ hX2 hM2 hW
  · exact absurd ((rfl).trans v2.symm) c1

set_option maxRecDepth 100000 in
set_option maxHeartbeats 600000 in
theorem law_thrower {nm : String} {X : mmX} {l : Launch} {k L i : Nat} {xs : Nat → Int32} (hC : mm_C l (k + 19) 0 144 pT X) (hs : mm_scr L xs X) (hL : L ≤ 448) (hi : i + 7 ≤ L) {F A : mmF} {R : mmR} {G : mmG} {Q : QV} (hX : RepX F A R G Q) (hM : RepM F A R G Q) (hW : wfR Q) (kk : lwK nm X i) : WP (hL_law nm) X 144 286 [(0, .float 0), (1, .ref 0), (2, .ref 123), (3, .int (nI i))] [] F A R G := by
  refine wp_aload_n dL_law_286 rfl 1 rfl ?_
  refine wp_xload_n dL_law_287 rfl 0 rfl ?_
  refine wp_iload_n dL_law_288 rfl 3 rfl ?_
  refine wp_iconst (v := 1) dL_law_289 (by decide) ?_
  refine wp_iadd dL_law_290 ?_
  refine wp_sld hs (by omega) (i + 1) (ix_add rfl rfl) (by omega) dL_law_291 ?_
  refine wp_xload_n dL_law_292 rfl 0 rfl ?_
  refine wp_iload_n dL_law_293 rfl 3 rfl ?_
  refine wp_iconst (v := 2) dL_law_294 (by decide) ?_
  refine wp_iadd dL_law_295 ?_
  refine wp_sld hs (by omega) (i + 2) (ix_add rfl rfl) (by omega) dL_law_296 ?_
  refine wp_callP (mm_siteV (av := [.int (xs (i + 1)), .int (xs (i + 2))]) hC lL_40 (rfl) (by decide) ⟨_, rfl, rfl⟩ rfl rfl (Nat.le_of_ble_eq_true rfl) dL_law_297) (c_X9_thrower l (k + 17) _ _ _ _ _ _ Q hX hW.1) (by omega) (by decide) ?_
  refine wp_aload_n dL_law_300 rfl 2 rfl ?_
  refine wp_xload_n dL_law_301 rfl 0 rfl ?_
  refine wp_iload_n dL_law_302 rfl 3 rfl ?_
  refine wp_iconst (v := 1) dL_law_303 (by decide) ?_
  refine wp_iadd dL_law_304 ?_
  refine wp_sld hs (by omega) (i + 1) (ix_add rfl rfl) (by omega) dL_law_305 ?_
  refine wp_xload_n dL_law_306 rfl 0 rfl ?_
  refine wp_iload_n dL_law_307 rfl 3 rfl ?_
  refine wp_iconst (v := 2) dL_law_308 (by decide) ?_
  refine wp_iadd dL_law_309 ?_
  refine wp_sld hs (by omega) (i + 2) (ix_add rfl rfl) (by omega) dL_law_310 ?_
  refine wp_callI (mm_siteV (av := [.int (xs (i + 1)), .int (xs (i + 2))]) hC lL_43 (rfl) (by decide) ⟨_, rfl, rfl⟩ rfl rfl (Nat.le_of_ble_eq_true rfl) dL_law_311) (c_X10_thrower l (k + 16) _ _ _ _ _ _ Q hM hW.1) (by omega) (by decide) (fun r2 F2 A2 R2 G2 hq => ?_)
  obtain ⟨v2, hM2, f2⟩ := hq
  have hX2 := hX.cong f2 hM2.rl
  refine wp_icmp_eq 1085 dL_law_314 (by decide) (fun c1 => ?_) (fun c1 => ?_)
  · exact kk _ _ _ _ _ hX2 hM2 hW
  · exact absurd ((rfl).trans v2.symm) c1

set_option maxRecDepth 100000 in
set_option maxHeartbeats 600000 in
theorem law_lands {nm : String} {X : mmX} {l : Launch} {k L i : Nat} {xs : Nat → Int32} (hC : mm_C l (k + 19) 0 144 pT X) (hs : mm_scr L xs X) (hL : L ≤ 448) (hi : i + 7 ≤ L) {F A : mmF} {R : mmR} {G : mmG} {Q : QV} (hX : RepX F A R G Q) (hM : RepM F A R G Q) (hW : wfR Q) (kk : lwK nm X i) : WP (hL_law nm) X 144 319 [(0, .float 0), (1, .ref 0), (2, .ref 123), (3, .int (nI i))] [] F A R G := by
  refine wp_aload_n dL_law_319 rfl 1 rfl ?_
  refine wp_xload_n dL_law_320 rfl 0 rfl ?_
  refine wp_iload_n dL_law_321 rfl 3 rfl ?_
  refine wp_iconst (v := 1) dL_law_322 (by decide) ?_
  refine wp_iadd dL_law_323 ?_
  refine wp_sld hs (by omega) (i + 1) (ix_add rfl rfl) (by omega) dL_law_324 ?_
  refine wp_xload_n dL_law_325 rfl 0 rfl ?_
  refine wp_iload_n dL_law_326 rfl 3 rfl ?_
  refine wp_iconst (v := 2) dL_law_327 (by decide) ?_
  refine wp_iadd dL_law_328 ?_
  refine wp_sld hs (by omega) (i + 2) (ix_add rfl rfl) (by omega) dL_law_329 ?_
  refine wp_xload_n dL_law_330 rfl 0 rfl ?_
  refine wp_iload_n dL_law_331 rfl 3 rfl ?_
  refine wp_iconst (v := 3) dL_law_332 (by decide) ?_
  refine wp_iadd dL_law_333 ?_
  refine wp_sld hs (by omega) (i + 3) (ix_add rfl rfl) (by omega) dL_law_334 ?_
  refine wp_callP (mm_siteV (av := [.int (xs (i + 1)), .int (xs (i + 2)), .int (xs (i + 3))]) hC lL_44 (rfl) (by decide) ⟨_, rfl, rfl⟩ rfl rfl (Nat.le_of_ble_eq_true rfl) dL_law_335) (c_X9_lands l (k + 16) _ _ _ _ _ _ _ Q hX hW.1) (by omega) (by decide) ?_
  refine wp_aload_n dL_law_338 rfl 2 rfl ?_
  refine wp_xload_n dL_law_339 rfl 0 rfl ?_
  refine wp_iload_n dL_law_340 rfl 3 rfl ?_
  refine wp_iconst (v := 1) dL_law_341 (by decide) ?_
  refine wp_iadd dL_law_342 ?_
  refine wp_sld hs (by omega) (i + 1) (ix_add rfl rfl) (by omega) dL_law_343 ?_
  refine wp_xload_n dL_law_344 rfl 0 rfl ?_
  refine wp_iload_n dL_law_345 rfl 3 rfl ?_
  refine wp_iconst (v := 2) dL_law_346 (by decide) ?_
  refine wp_iadd dL_law_347 ?_
  refine wp_sld hs (by omega) (i + 2) (ix_add rfl rfl) (by omega) dL_law_348 ?_
  refine wp_xload_n dL_law_349 rfl 0 rfl ?_
  refine wp_iload_n dL_law_350 rfl 3 rfl ?_
  refine wp_iconst (v := 3) dL_law_351 (by decide) ?_
  refine wp_iadd dL_law_352 ?_
  refine wp_sld hs (by omega) (i + 3) (ix_add rfl rfl) (by omega) dL_law_353 ?_
  refine wp_callI (mm_siteV (av := [.int (xs (i + 1)), .int (xs (i + 2)), .int (xs (i + 3))]) hC lL_48 (rfl) (by decide) ⟨_, rfl, rfl⟩ rfl rfl (Nat.le_of_ble_eq_true rfl) dL_law_354) (c_X10_lands l (k + 15) _ _ _ _ _ _ _ Q hM hW.1) (by omega) (by decide) (fun r2 F2 A2 R2 G2 hq => ?_)
  obtain ⟨v2, hM2, f2⟩ := hq
  have hX2 := hX.cong f2 hM2.rl
  refine wp_icmp_eq 1085 dL_law_357 (by decide) (fun c1 => ?_) (fun c1 => ?_)
  · exact kk _ _ _ _ _ hX2 hM2 hW
  · exact absurd ((rfl).trans v2.symm) c1

set_option maxRecDepth 100000 in
set_option maxHeartbeats 600000 in
theorem law_toss {nm : String} {X : mmX} {l : Launch} {k L i : Nat} {xs : Nat → Int32} (hC : mm_C l (k + 19) 0 144 pT X) (hs : mm_scr L xs X) (hL : L ≤ 448) (hi : i + 7 ≤ L) {F A : mmF} {R : mmR} {G : mmG} {Q : QV} (hX : RepX F A R G Q) (hM : RepM F A R G Q) (hW : wfR Q) (kk : lwK nm X i) : WP (hL_law nm) X 144 362 [(0, .float 0), (1, .ref 0), (2, .ref 123), (3, .int (nI i))] [] F A R G := by
  refine wp_aload_n dL_law_362 rfl 1 rfl ?_
  refine wp_xload_n dL_law_363 rfl 0 rfl ?_
  refine wp_iload_n dL_law_364 rfl 3 rfl ?_
  refine wp_iconst (v := 1) dL_law_365 (by decide) ?_
  refine wp_iadd dL_law_366 ?_
  refine wp_sld hs (by omega) (i + 1) (ix_add rfl rfl) (by omega) dL_law_367 ?_
  refine wp_xload_n dL_law_368 rfl 0 rfl ?_
  refine wp_iload_n dL_law_369 rfl 3 rfl ?_
  refine wp_iconst (v := 2) dL_law_370 (by decide) ?_
  refine wp_iadd dL_law_371 ?_
  refine wp_sld hs (by omega) (i + 2) (ix_add rfl rfl) (by omega) dL_law_372 ?_
  refine wp_xload_n dL_law_373 rfl 0 rfl ?_
  refine wp_iload_n dL_law_374 rfl 3 rfl ?_
  refine wp_iconst (v := 3) dL_law_375 (by decide) ?_
  refine wp_iadd dL_law_376 ?_
  refine wp_sld hs (by omega) (i + 3) (ix_add rfl rfl) (by omega) dL_law_377 ?_
  refine wp_callI (mm_siteV (av := [.int (xs (i + 1)), .int (xs (i + 2)), .int (xs (i + 3))]) hC lL_49 (rfl) (by decide) ⟨_, rfl, rfl⟩ rfl rfl (Nat.le_of_ble_eq_true rfl) dL_law_378) (c_X9_toss l (k + 6) _ _ _ _ _ _ _ Q hX hW.1) (by omega) (by decide) (fun r1 F1 A1 R1 G1 hq => ?_)
  obtain ⟨v1, hX1, f1⟩ := hq
  have hM1 := hM.cong f1 hX1.rl
  refine wp_aload_n dL_law_381 rfl 2 rfl ?_
  refine wp_xload_n dL_law_382 rfl 0 rfl ?_
  refine wp_iload_n dL_law_383 rfl 3 rfl ?_
  refine wp_iconst (v := 1) dL_law_384 (by decide) ?_
  refine wp_iadd dL_law_385 ?_
  refine wp_sld hs (by omega) (i + 1) (ix_add rfl rfl) (by omega) dL_law_386 ?_
  refine wp_xload_n dL_law_387 rfl 0 rfl ?_
  refine wp_iload_n dL_law_388 rfl 3 rfl ?_
  refine wp_iconst (v := 2) dL_law_389 (by decide) ?_
  refine wp_iadd dL_law_390 ?_
  refine wp_sld hs (by omega) (i + 2) (ix_add rfl rfl) (by omega) dL_law_391 ?_
  refine wp_xload_n dL_law_392 rfl 0 rfl ?_
  refine wp_iload_n dL_law_393 rfl 3 rfl ?_
  refine wp_iconst (v := 3) dL_law_394 (by decide) ?_
  refine wp_iadd dL_law_395 ?_
  refine wp_sld hs (by omega) (i + 3) (ix_add rfl rfl) (by omega) dL_law_396 ?_
  refine wp_callI (mm_siteV (av := [.int (xs (i + 1)), .int (xs (i + 2)), .int (xs (i + 3))]) hC lL_52 (rfl) (by decide) ⟨_, rfl, rfl⟩ rfl rfl (Nat.le_of_ble_eq_true rfl) dL_law_397) (c_X10_toss l (k + 15) _ _ _ _ _ _ _ Q hM1 hW.1) (by omega) (by decide) (fun r2 F2 A2 R2 G2 hq => ?_)
  obtain ⟨v2, hM2, f2⟩ := hq
  have hX2 := hX1.cong f2 hM2.rl
  refine wp_icmp_eq 1085 dL_law_400 (by decide) (fun c1 => ?_) (fun c1 => ?_)
  · exact kk _ _ _ _ _ hX2 hM2 (wfR_toss hW)
  · exact absurd ((v1).trans v2.symm) c1

set_option maxRecDepth 100000 in
set_option maxHeartbeats 600000 in
theorem law_set {nm : String} {X : mmX} {l : Launch} {k L i : Nat} {xs : Nat → Int32} (hC : mm_C l (k + 19) 0 144 pT X) (hs : mm_scr L xs X) (hL : L ≤ 448) (hi : i + 7 ≤ L) {F A : mmF} {R : mmR} {G : mmG} {Q : QV} (hX : RepX F A R G Q) (hM : RepM F A R G Q) (hW : wfR Q) (kk : lwK nm X i) : WP (hL_law nm) X 144 405 [(0, .float 0), (1, .ref 0), (2, .ref 123), (3, .int (nI i))] [] F A R G := by
  refine wp_aload_n dL_law_405 rfl 1 rfl ?_
  refine wp_xload_n dL_law_406 rfl 0 rfl ?_
  refine wp_iload_n dL_law_407 rfl 3 rfl ?_
  refine wp_iconst (v := 1) dL_law_408 (by decide) ?_
  refine wp_iadd dL_law_409 ?_
  refine wp_sld hs (by omega) (i + 1) (ix_add rfl rfl) (by omega) dL_law_410 ?_
  refine wp_callI (mm_siteV (av := [.int (xs (i + 1))]) hC lL_53 (rfl) (by decide) ⟨_, rfl, rfl⟩ rfl rfl (Nat.le_of_ble_eq_true rfl) dL_law_411) (c_X9_set l (k + 14) _ _ _ _ _ Q hX hW.1) (by omega) (by decide) (fun r1 F1 A1 R1 G1 hq => ?_)
  obtain ⟨v1, hX1, f1⟩ := hq
  have hM1 := hM.cong f1 hX1.rl
  refine wp_aload_n dL_law_414 rfl 2 rfl ?_
  refine wp_xload_n dL_law_415 rfl 0 rfl ?_
  refine wp_iload_n dL_law_416 rfl 3 rfl ?_
  refine wp_iconst (v := 1) dL_law_417 (by decide) ?_
  refine wp_iadd dL_law_418 ?_
  refine wp_sld hs (by omega) (i + 1) (ix_add rfl rfl) (by omega) dL_law_419 ?_
  refine wp_callI (mm_siteV (av := [.int (xs (i + 1))]) hC lL_56 (rfl) (by decide) ⟨_, rfl, rfl⟩ rfl rfl (Nat.le_of_ble_eq_true rfl) dL_law_420) (c_X10_set l (k + 16) _ _ _ _ _ Q hM1 hW.1) (by omega) (by decide) (fun r2 F2 A2 R2 G2 hq => ?_)
  obtain ⟨v2, hM2, f2⟩ := hq
  have hX2 := hX1.cong f2 hM2.rl
  refine wp_icmp_eq 1085 dL_law_423 (by decide) (fun c1 => ?_) (fun c1 => ?_)
  · exact kk _ _ _ _ _ hX2 hM2 (wfR_set hW)
  · exact absurd ((v1).trans v2.symm) c1

set_option maxRecDepth 100000 in
set_option maxHeartbeats 600000 in
theorem law_nail {nm : String} {X : mmX} {l : Launch} {k L i : Nat} {xs : Nat → Int32} (hC : mm_C l (k + 19) 0 144 pT X) (hs : mm_scr L xs X) (hL : L ≤ 448) (hi : i + 7 ≤ L) {F A : mmF} {R : mmR} {G : mmG} {Q : QV} (hX : RepX F A R G Q) (hM : RepM F A R G Q) (hW : wfR Q) (kk : lwK nm X i) : WP (hL_law nm) X 144 428 [(0, .float 0), (1, .ref 0), (2, .ref 123), (3, .int (nI i))] [] F A R G := by
  refine wp_aload_n dL_law_428 rfl 1 rfl ?_
  refine wp_xload_n dL_law_429 rfl 0 rfl ?_
  refine wp_iload_n dL_law_430 rfl 3 rfl ?_
  refine wp_iconst (v := 1) dL_law_431 (by decide) ?_
  refine wp_iadd dL_law_432 ?_
  refine wp_sld hs (by omega) (i + 1) (ix_add rfl rfl) (by omega) dL_law_433 ?_
  refine wp_callI (mm_siteV (av := [.int (xs (i + 1))]) hC lL_57 (rfl) (by decide) ⟨_, rfl, rfl⟩ rfl rfl (Nat.le_of_ble_eq_true rfl) dL_law_434) (c_X9_nail l (k + 14) _ _ _ _ _ Q hX hW.1) (by omega) (by decide) (fun r1 F1 A1 R1 G1 hq => ?_)
  obtain ⟨v1, hX1, f1⟩ := hq
  have hM1 := hM.cong f1 hX1.rl
  refine wp_aload_n dL_law_437 rfl 2 rfl ?_
  refine wp_xload_n dL_law_438 rfl 0 rfl ?_
  refine wp_iload_n dL_law_439 rfl 3 rfl ?_
  refine wp_iconst (v := 1) dL_law_440 (by decide) ?_
  refine wp_iadd dL_law_441 ?_
  refine wp_sld hs (by omega) (i + 1) (ix_add rfl rfl) (by omega) dL_law_442 ?_
  refine wp_callI (mm_siteV (av := [.int (xs (i + 1))]) hC lL_60 (rfl) (by decide) ⟨_, rfl, rfl⟩ rfl rfl (Nat.le_of_ble_eq_true rfl) dL_law_443) (c_X10_nail l (k + 16) _ _ _ _ _ Q hM1 hW.1) (by omega) (by decide) (fun r2 F2 A2 R2 G2 hq => ?_)
  obtain ⟨v2, hM2, f2⟩ := hq
  have hX2 := hX1.cong f2 hM2.rl
  refine wp_icmp_eq 1085 dL_law_446 (by decide) (fun c1 => ?_) (fun c1 => ?_)
  · exact kk _ _ _ _ _ hX2 hM2 (wfR_nail hW)
  · exact absurd ((v1).trans v2.symm) c1

set_option maxRecDepth 100000 in
set_option maxHeartbeats 600000 in
theorem law_pay {nm : String} {X : mmX} {l : Launch} {k L i : Nat} {xs : Nat → Int32} (hC : mm_C l (k + 19) 0 144 pT X) (hs : mm_scr L xs X) (hL : L ≤ 448) (hi : i + 7 ≤ L) {F A : mmF} {R : mmR} {G : mmG} {Q : QV} (hX : RepX F A R G Q) (hM : RepM F A R G Q) (hW : wfR Q) (kk : lwK nm X i) : WP (hL_law nm) X 144 451 [(0, .float 0), (1, .ref 0), (2, .ref 123), (3, .int (nI i))] [] F A R G := by
  refine wp_aload_n dL_law_451 rfl 1 rfl ?_
  refine wp_callI (mm_siteV (av := []) hC lL_61 (rfl) (by decide) ⟨_, rfl, rfl⟩ rfl rfl (Nat.le_of_ble_eq_true rfl) dL_law_452) (c_X9_pay l (k + 14) _ _ _ _ Q hX hW.1) (by omega) (by decide) (fun r1 F1 A1 R1 G1 hq => ?_)
  obtain ⟨v1, hX1, f1⟩ := hq
  have hM1 := hM.cong f1 hX1.rl
  refine wp_aload_n dL_law_455 rfl 2 rfl ?_
  refine wp_callI (mm_siteV (av := []) hC lL_64 (rfl) (by decide) ⟨_, rfl, rfl⟩ rfl rfl (Nat.le_of_ble_eq_true rfl) dL_law_456) (c_X10_pay l (k + 17) _ _ _ _ Q hM1 hW.1) (by omega) (by decide) (fun r2 F2 A2 R2 G2 hq => ?_)
  obtain ⟨v2, hM2, f2⟩ := hq
  have hX2 := hX1.cong f2 hM2.rl
  refine wp_icmp_eq 1085 dL_law_459 (by decide) (fun c1 => ?_) (fun c1 => ?_)
  · exact kk _ _ _ _ _ hX2 hM2 (wfR_pay hW)
  · exact absurd ((v1).trans v2.symm) c1

set_option maxRecDepth 100000 in
set_option maxHeartbeats 600000 in
theorem law_blow {nm : String} {X : mmX} {l : Launch} {k L i : Nat} {xs : Nat → Int32} (hC : mm_C l (k + 19) 0 144 pT X) (hs : mm_scr L xs X) (hL : L ≤ 448) (hi : i + 7 ≤ L) {F A : mmF} {R : mmR} {G : mmG} {Q : QV} (hX : RepX F A R G Q) (hM : RepM F A R G Q) (hW : wfR Q) (kk : lwK nm X i) : WP (hL_law nm) X 144 464 [(0, .float 0), (1, .ref 0), (2, .ref 123), (3, .int (nI i))] [] F A R G := by
  refine wp_aload_n dL_law_464 rfl 1 rfl ?_
  refine wp_xload_n dL_law_465 rfl 0 rfl ?_
  refine wp_iload_n dL_law_466 rfl 3 rfl ?_
  refine wp_iconst (v := 1) dL_law_467 (by decide) ?_
  refine wp_iadd dL_law_468 ?_
  refine wp_sld hs (by omega) (i + 1) (ix_add rfl rfl) (by omega) dL_law_469 ?_
  refine wp_callI (mm_siteV (av := [.int (xs (i + 1))]) hC lL_65 (rfl) (by decide) ⟨_, rfl, rfl⟩ rfl rfl (Nat.le_of_ble_eq_true rfl) dL_law_470) (c_X9_blow l (k + 14) _ _ _ _ _ Q hX hW.1) (by omega) (by decide) (fun r1 F1 A1 R1 G1 hq => ?_)
  obtain ⟨v1, hX1, f1⟩ := hq
  have hM1 := hM.cong f1 hX1.rl
  refine wp_aload_n dL_law_473 rfl 2 rfl ?_
  refine wp_xload_n dL_law_474 rfl 0 rfl ?_
  refine wp_iload_n dL_law_475 rfl 3 rfl ?_
  refine wp_iconst (v := 1) dL_law_476 (by decide) ?_
  refine wp_iadd dL_law_477 ?_
  refine wp_sld hs (by omega) (i + 1) (ix_add rfl rfl) (by omega) dL_law_478 ?_
  refine wp_callI (mm_siteV (av := [.int (xs (i + 1))]) hC lL_68 (rfl) (by decide) ⟨_, rfl, rfl⟩ rfl rfl (Nat.le_of_ble_eq_true rfl) dL_law_479) (c_X10_blow l (k + 17) _ _ _ _ _ Q hM1 hW.1) (by omega) (by decide) (fun r2 F2 A2 R2 G2 hq => ?_)
  obtain ⟨v2, hM2, f2⟩ := hq
  have hX2 := hX1.cong f2 hM2.rl
  refine wp_icmp_eq 1085 dL_law_482 (by decide) (fun c1 => ?_) (fun c1 => ?_)
  · exact kk _ _ _ _ _ hX2 hM2 (wfR_blow hW)
  · exact absurd ((v1).trans v2.symm) c1

set_option maxRecDepth 100000 in
set_option maxHeartbeats 600000 in
theorem law_undo {nm : String} {X : mmX} {l : Launch} {k L i : Nat} {xs : Nat → Int32} (hC : mm_C l (k + 19) 0 144 pT X) (hs : mm_scr L xs X) (hL : L ≤ 448) (hi : i + 7 ≤ L) {F A : mmF} {R : mmR} {G : mmG} {Q : QV} (hX : RepX F A R G Q) (hM : RepM F A R G Q) (hW : wfR Q) (kk : lwK nm X i) : WP (hL_law nm) X 144 487 [(0, .float 0), (1, .ref 0), (2, .ref 123), (3, .int (nI i))] [] F A R G := by
  refine wp_aload_n dL_law_487 rfl 1 rfl ?_
  refine wp_callI (mm_siteV (av := []) hC lL_69 (rfl) (by decide) ⟨_, rfl, rfl⟩ rfl rfl (Nat.le_of_ble_eq_true rfl) dL_law_488) (c_X9_undo l (k + 14) _ _ _ _ Q hX hW.1) (by omega) (by decide) (fun r1 F1 A1 R1 G1 hq => ?_)
  obtain ⟨v1, hX1, f1⟩ := hq
  have hM1 := hM.cong f1 hX1.rl
  refine wp_aload_n dL_law_491 rfl 2 rfl ?_
  refine wp_callI (mm_siteV (av := []) hC lL_72 (rfl) (by decide) ⟨_, rfl, rfl⟩ rfl rfl (Nat.le_of_ble_eq_true rfl) dL_law_492) (c_X10_undo l (k + 18) _ _ _ _ Q hM1 hW.1) (by omega) (by decide) (fun r2 F2 A2 R2 G2 hq => ?_)
  obtain ⟨v2, hM2, f2⟩ := hq
  have hX2 := hX1.cong f2 hM2.rl
  refine wp_icmp_eq 1085 dL_law_495 (by decide) (fun c1 => ?_) (fun c1 => ?_)
  · exact kk _ _ _ _ _ hX2 hM2 (wfR_undo hW)
  · exact absurd ((v1).trans v2.symm) c1

set_option maxRecDepth 100000 in
set_option maxHeartbeats 600000 in
theorem law_felled {nm : String} {X : mmX} {l : Launch} {k L i : Nat} {xs : Nat → Int32} (hC : mm_C l (k + 19) 0 144 pT X) (hs : mm_scr L xs X) (hL : L ≤ 448) (hi : i + 7 ≤ L) {F A : mmF} {R : mmR} {G : mmG} {Q : QV} (hX : RepX F A R G Q) (hM : RepM F A R G Q) (hW : wfR Q) (kk : lwK nm X i) : WP (hL_law nm) X 144 500 [(0, .float 0), (1, .ref 0), (2, .ref 123), (3, .int (nI i))] [] F A R G := by
  refine wp_aload_n dL_law_500 rfl 1 rfl ?_
  refine wp_xload_n dL_law_501 rfl 0 rfl ?_
  refine wp_iload_n dL_law_502 rfl 3 rfl ?_
  refine wp_iconst (v := 1) dL_law_503 (by decide) ?_
  refine wp_iadd dL_law_504 ?_
  refine wp_sld hs (by omega) (i + 1) (ix_add rfl rfl) (by omega) dL_law_505 ?_
  refine wp_xload_n dL_law_506 rfl 0 rfl ?_
  refine wp_iload_n dL_law_507 rfl 3 rfl ?_
  refine wp_iconst (v := 2) dL_law_508 (by decide) ?_
  refine wp_iadd dL_law_509 ?_
  refine wp_sld hs (by omega) (i + 2) (ix_add rfl rfl) (by omega) dL_law_510 ?_
  refine wp_xload_n dL_law_511 rfl 0 rfl ?_
  refine wp_iload_n dL_law_512 rfl 3 rfl ?_
  refine wp_iconst (v := 3) dL_law_513 (by decide) ?_
  refine wp_iadd dL_law_514 ?_
  refine wp_sld hs (by omega) (i + 3) (ix_add rfl rfl) (by omega) dL_law_515 ?_
  refine wp_callI (mm_siteV (av := [.int (xs (i + 1)), .int (xs (i + 2)), .int (xs (i + 3))]) hC lL_73 (rfl) (by decide) ⟨_, rfl, rfl⟩ rfl rfl (Nat.le_of_ble_eq_true rfl) dL_law_516) (c_X9_felled l (k + 5) _ _ _ _ _ _ _ Q hX hW.1) (by omega) (by decide) (fun r1 F1 A1 R1 G1 hq => ?_)
  obtain ⟨v1, hX1, f1⟩ := hq
  have hM1 := hM.cong f1 hX1.rl
  refine wp_aload_n dL_law_519 rfl 2 rfl ?_
  refine wp_xload_n dL_law_520 rfl 0 rfl ?_
  refine wp_iload_n dL_law_521 rfl 3 rfl ?_
  refine wp_iconst (v := 1) dL_law_522 (by decide) ?_
  refine wp_iadd dL_law_523 ?_
  refine wp_sld hs (by omega) (i + 1) (ix_add rfl rfl) (by omega) dL_law_524 ?_
  refine wp_xload_n dL_law_525 rfl 0 rfl ?_
  refine wp_iload_n dL_law_526 rfl 3 rfl ?_
  refine wp_iconst (v := 2) dL_law_527 (by decide) ?_
  refine wp_iadd dL_law_528 ?_
  refine wp_sld hs (by omega) (i + 2) (ix_add rfl rfl) (by omega) dL_law_529 ?_
  refine wp_xload_n dL_law_530 rfl 0 rfl ?_
  refine wp_iload_n dL_law_531 rfl 3 rfl ?_
  refine wp_iconst (v := 3) dL_law_532 (by decide) ?_
  refine wp_iadd dL_law_533 ?_
  refine wp_sld hs (by omega) (i + 3) (ix_add rfl rfl) (by omega) dL_law_534 ?_
  refine wp_callI (mm_siteV (av := [.int (xs (i + 1)), .int (xs (i + 2)), .int (xs (i + 3))]) hC lL_76 (rfl) (by decide) ⟨_, rfl, rfl⟩ rfl rfl (Nat.le_of_ble_eq_true rfl) dL_law_535) (c_X10_felled l (k + 15) _ _ _ _ _ _ _ Q hM1 hW.1) (by omega) (by decide) (fun r2 F2 A2 R2 G2 hq => ?_)
  obtain ⟨v2, hM2, f2⟩ := hq
  have hX2 := hX1.cong f2 hM2.rl
  refine wp_icmp_eq 1085 dL_law_538 (by decide) (fun c1 => ?_) (fun c1 => ?_)
  · exact kk _ _ _ _ _ hX2 hM2 hW
  · exact absurd ((v1).trans v2.symm) c1

set_option maxRecDepth 100000 in
set_option maxHeartbeats 600000 in
theorem law_fewest {nm : String} {X : mmX} {l : Launch} {k L i : Nat} {xs : Nat → Int32} (hC : mm_C l (k + 19) 0 144 pT X) (hs : mm_scr L xs X) (hL : L ≤ 448) (hi : i + 7 ≤ L) {F A : mmF} {R : mmR} {G : mmG} {Q : QV} (hX : RepX F A R G Q) (hM : RepM F A R G Q) (hW : wfR Q) (kk : lwK nm X i) : WP (hL_law nm) X 144 543 [(0, .float 0), (1, .ref 0), (2, .ref 123), (3, .int (nI i))] [] F A R G := by
  refine wp_aload_n dL_law_543 rfl 1 rfl ?_
  refine wp_xload_n dL_law_544 rfl 0 rfl ?_
  refine wp_iload_n dL_law_545 rfl 3 rfl ?_
  refine wp_iconst (v := 1) dL_law_546 (by decide) ?_
  refine wp_iadd dL_law_547 ?_
  refine wp_sld hs (by omega) (i + 1) (ix_add rfl rfl) (by omega) dL_law_548 ?_
  refine wp_xload_n dL_law_549 rfl 0 rfl ?_
  refine wp_iload_n dL_law_550 rfl 3 rfl ?_
  refine wp_iconst (v := 2) dL_law_551 (by decide) ?_
  refine wp_iadd dL_law_552 ?_
  refine wp_sld hs (by omega) (i + 2) (ix_add rfl rfl) (by omega) dL_law_553 ?_
  refine wp_if_eq 561 dL_law_554 (by decide) (fun c1 => ?_) (fun c1 => ?_)
  · refine wp_iconst (v := 0) dL_law_561 (by decide) ?_
    refine wp_callI (mm_siteV (av := [.int (xs (i + 1)), .int 0]) hC lL_77 (rfl) (by decide) ⟨_, rfl, rfl⟩ rfl rfl (Nat.le_of_ble_eq_true rfl) dL_law_562) (c_X9_fewest l (k + 2) _ _ _ _ _ _ Q hX hW.1) (by omega) (by decide) (fun r1 F1 A1 R1 G1 hq => ?_)
    obtain ⟨v1, hX1, f1⟩ := hq
    have hM1 := hM.cong f1 hX1.rl
    refine wp_aload_n dL_law_565 rfl 2 rfl ?_
    refine wp_xload_n dL_law_566 rfl 0 rfl ?_
    refine wp_iload_n dL_law_567 rfl 3 rfl ?_
    refine wp_iconst (v := 1) dL_law_568 (by decide) ?_
    refine wp_iadd dL_law_569 ?_
    refine wp_sld hs (by omega) (i + 1) (ix_add rfl rfl) (by omega) dL_law_570 ?_
    refine wp_xload_n dL_law_571 rfl 0 rfl ?_
    refine wp_iload_n dL_law_572 rfl 3 rfl ?_
    refine wp_iconst (v := 2) dL_law_573 (by decide) ?_
    refine wp_iadd dL_law_574 ?_
    refine wp_sld hs (by omega) (i + 2) (ix_add rfl rfl) (by omega) dL_law_575 ?_
    refine wp_if_eq 583 dL_law_576 (by decide) (fun c2 => ?_) (fun c2 => ?_)
    · refine wp_iconst (v := 0) dL_law_583 (by decide) ?_
      refine wp_callI (mm_siteV (av := [.int (xs (i + 1)), .int 0]) hC lL_81 (rfl) (by decide) ⟨_, rfl, rfl⟩ rfl rfl (Nat.le_of_ble_eq_true rfl) dL_law_584) (c_X10_fewest l (k + 13) _ _ _ _ _ _ Q hM1 hW.1) (by omega) (by decide) (fun r2 F2 A2 R2 G2 hq => ?_)
      obtain ⟨v2, hM2, f2⟩ := hq
      have hX2 := hX1.cong f2 hM2.rl
      refine wp_icmp_eq 1085 dL_law_587 (by decide) (fun c3 => ?_) (fun c3 => ?_)
      · exact kk _ _ _ _ _ hX2 hM2 hW
      · exact absurd ((v1).trans v2.symm) c3
    · exact absurd c1 c2
  · refine wp_iconst (v := 1) dL_law_557 (by decide) ?_
    refine wp_goto 562 dL_law_558 (by decide) ?_
    refine wp_callI (mm_siteV (av := [.int (xs (i + 1)), .int 1]) hC lL_77 (rfl) (by decide) ⟨_, rfl, rfl⟩ rfl rfl (Nat.le_of_ble_eq_true rfl) dL_law_562) (c_X9_fewest l (k + 2) _ _ _ _ _ _ Q hX hW.1) (by omega) (by decide) (fun r1 F1 A1 R1 G1 hq => ?_)
    obtain ⟨v1, hX1, f1⟩ := hq
    have hM1 := hM.cong f1 hX1.rl
    refine wp_aload_n dL_law_565 rfl 2 rfl ?_
    refine wp_xload_n dL_law_566 rfl 0 rfl ?_
    refine wp_iload_n dL_law_567 rfl 3 rfl ?_
    refine wp_iconst (v := 1) dL_law_568 (by decide) ?_
    refine wp_iadd dL_law_569 ?_
    refine wp_sld hs (by omega) (i + 1) (ix_add rfl rfl) (by omega) dL_law_570 ?_
    refine wp_xload_n dL_law_571 rfl 0 rfl ?_
    refine wp_iload_n dL_law_572 rfl 3 rfl ?_
    refine wp_iconst (v := 2) dL_law_573 (by decide) ?_
    refine wp_iadd dL_law_574 ?_
    refine wp_sld hs (by omega) (i + 2) (ix_add rfl rfl) (by omega) dL_law_575 ?_
    refine wp_if_eq 583 dL_law_576 (by decide) (fun c4 => ?_) (fun c4 => ?_)
    · exact absurd c4 c1
    · refine wp_iconst (v := 1) dL_law_579 (by decide) ?_
      refine wp_goto 584 dL_law_580 (by decide) ?_
      refine wp_callI (mm_siteV (av := [.int (xs (i + 1)), .int 1]) hC lL_81 (rfl) (by decide) ⟨_, rfl, rfl⟩ rfl rfl (Nat.le_of_ble_eq_true rfl) dL_law_584) (c_X10_fewest l (k + 13) _ _ _ _ _ _ Q hM1 hW.1) (by omega) (by decide) (fun r2 F2 A2 R2 G2 hq => ?_)
      obtain ⟨v2, hM2, f2⟩ := hq
      have hX2 := hX1.cong f2 hM2.rl
      refine wp_icmp_eq 1085 dL_law_587 (by decide) (fun c5 => ?_) (fun c5 => ?_)
      · exact kk _ _ _ _ _ hX2 hM2 hW
      · exact absurd ((v1).trans v2.symm) c5

set_option maxRecDepth 100000 in
set_option maxHeartbeats 600000 in
theorem law_winds {nm : String} {X : mmX} {l : Launch} {k L i : Nat} {xs : Nat → Int32} (hC : mm_C l (k + 19) 0 144 pT X) (hs : mm_scr L xs X) (hL : L ≤ 448) (hi : i + 7 ≤ L) {F A : mmF} {R : mmR} {G : mmG} {Q : QV} (hX : RepX F A R G Q) (hM : RepM F A R G Q) (hW : wfR Q) (kk : lwK nm X i) : WP (hL_law nm) X 144 592 [(0, .float 0), (1, .ref 0), (2, .ref 123), (3, .int (nI i))] [] F A R G := by
  refine wp_aload_n dL_law_592 rfl 1 rfl ?_
  refine wp_xload_n dL_law_593 rfl 0 rfl ?_
  refine wp_iload_n dL_law_594 rfl 3 rfl ?_
  refine wp_iconst (v := 1) dL_law_595 (by decide) ?_
  refine wp_iadd dL_law_596 ?_
  refine wp_sld hs (by omega) (i + 1) (ix_add rfl rfl) (by omega) dL_law_597 ?_
  refine wp_xload_n dL_law_598 rfl 0 rfl ?_
  refine wp_iload_n dL_law_599 rfl 3 rfl ?_
  refine wp_iconst (v := 2) dL_law_600 (by decide) ?_
  refine wp_iadd dL_law_601 ?_
  refine wp_sld hs (by omega) (i + 2) (ix_add rfl rfl) (by omega) dL_law_602 ?_
  refine wp_callP (mm_siteV (av := [.int (xs (i + 1)), .int (xs (i + 2))]) hC lL_82 (rfl) (by decide) ⟨_, rfl, rfl⟩ rfl rfl (Nat.le_of_ble_eq_true rfl) dL_law_603) (c_X9_winds l (k + 16) _ _ _ _ _ _ Q hX hW.1) (by omega) (by decide) ?_
  refine wp_aload_n dL_law_606 rfl 2 rfl ?_
  refine wp_xload_n dL_law_607 rfl 0 rfl ?_
  refine wp_iload_n dL_law_608 rfl 3 rfl ?_
  refine wp_iconst (v := 1) dL_law_609 (by decide) ?_
  refine wp_iadd dL_law_610 ?_
  refine wp_sld hs (by omega) (i + 1) (ix_add rfl rfl) (by omega) dL_law_611 ?_
  refine wp_xload_n dL_law_612 rfl 0 rfl ?_
  refine wp_iload_n dL_law_613 rfl 3 rfl ?_
  refine wp_iconst (v := 2) dL_law_614 (by decide) ?_
  refine wp_iadd dL_law_615 ?_
  refine wp_sld hs (by omega) (i + 2) (ix_add rfl rfl) (by omega) dL_law_616 ?_
  refine wp_callI (mm_siteV (av := [.int (xs (i + 1)), .int (xs (i + 2))]) hC lL_85 (rfl) (by decide) ⟨_, rfl, rfl⟩ rfl rfl (Nat.le_of_ble_eq_true rfl) dL_law_617) (c_X10_winds l (k + 16) _ _ _ _ _ _ Q hM hW.1) (by omega) (by decide) (fun r2 F2 A2 R2 G2 hq => ?_)
  obtain ⟨v2, hM2, f2⟩ := hq
  have hX2 := hX.cong f2 hM2.rl
  refine wp_icmp_eq 1085 dL_law_620 (by decide) (fun c1 => ?_) (fun c1 => ?_)
  · exact kk _ _ _ _ _ hX2 hM2 hW
  · exact absurd ((rfl).trans v2.symm) c1

set_option maxRecDepth 100000 in
set_option maxHeartbeats 600000 in
theorem law_match {nm : String} {X : mmX} {l : Launch} {k L i : Nat} {xs : Nat → Int32} (hC : mm_C l (k + 19) 0 144 pT X) (hs : mm_scr L xs X) (hL : L ≤ 448) (hi : i + 7 ≤ L) {F A : mmF} {R : mmR} {G : mmG} {Q : QV} (hX : RepX F A R G Q) (hM : RepM F A R G Q) (hW : wfR Q) (kk : lwK nm X i) : WP (hL_law nm) X 144 625 [(0, .float 0), (1, .ref 0), (2, .ref 123), (3, .int (nI i))] [] F A R G := by
  refine wp_aload_n dL_law_625 rfl 1 rfl ?_
  refine wp_xload_n dL_law_626 rfl 0 rfl ?_
  refine wp_iload_n dL_law_627 rfl 3 rfl ?_
  refine wp_iconst (v := 1) dL_law_628 (by decide) ?_
  refine wp_iadd dL_law_629 ?_
  refine wp_sld hs (by omega) (i + 1) (ix_add rfl rfl) (by omega) dL_law_630 ?_
  refine wp_if_eq 638 dL_law_631 (by decide) (fun c1 => ?_) (fun c1 => ?_)
  · refine wp_iconst (v := 0) dL_law_638 (by decide) ?_
    refine wp_callI (mm_siteV (av := [.int 0]) hC lL_86 (rfl) (by decide) ⟨_, rfl, rfl⟩ rfl rfl (Nat.le_of_ble_eq_true rfl) dL_law_639) (c_X9_match l (k + 1) _ _ _ _ _ Q hX hW.1) (by omega) (by decide) (fun r1 F1 A1 R1 G1 hq => ?_)
    obtain ⟨v1, hX1, f1⟩ := hq
    have hM1 := hM.cong f1 hX1.rl
    refine wp_aload_n dL_law_642 rfl 2 rfl ?_
    refine wp_xload_n dL_law_643 rfl 0 rfl ?_
    refine wp_iload_n dL_law_644 rfl 3 rfl ?_
    refine wp_iconst (v := 1) dL_law_645 (by decide) ?_
    refine wp_iadd dL_law_646 ?_
    refine wp_sld hs (by omega) (i + 1) (ix_add rfl rfl) (by omega) dL_law_647 ?_
    refine wp_if_eq 655 dL_law_648 (by decide) (fun c2 => ?_) (fun c2 => ?_)
    · refine wp_iconst (v := 0) dL_law_655 (by decide) ?_
      refine wp_callI (mm_siteV (av := [.int 0]) hC lL_90 (rfl) (by decide) ⟨_, rfl, rfl⟩ rfl rfl (Nat.le_of_ble_eq_true rfl) dL_law_656) (c_X10_match l (k + 13) _ _ _ _ _ Q hM1 hW.1) (by omega) (by decide) (fun r2 F2 A2 R2 G2 hq => ?_)
      obtain ⟨v2, hM2, f2⟩ := hq
      have hX2 := hX1.cong f2 hM2.rl
      refine wp_icmp_eq 1085 dL_law_659 (by decide) (fun c3 => ?_) (fun c3 => ?_)
      · exact kk _ _ _ _ _ hX2 hM2 hW
      · exact absurd ((v1).trans v2.symm) c3
    · exact absurd c1 c2
  · refine wp_iconst (v := 1) dL_law_634 (by decide) ?_
    refine wp_goto 639 dL_law_635 (by decide) ?_
    refine wp_callI (mm_siteV (av := [.int 1]) hC lL_86 (rfl) (by decide) ⟨_, rfl, rfl⟩ rfl rfl (Nat.le_of_ble_eq_true rfl) dL_law_639) (c_X9_match l (k + 1) _ _ _ _ _ Q hX hW.1) (by omega) (by decide) (fun r1 F1 A1 R1 G1 hq => ?_)
    obtain ⟨v1, hX1, f1⟩ := hq
    have hM1 := hM.cong f1 hX1.rl
    refine wp_aload_n dL_law_642 rfl 2 rfl ?_
    refine wp_xload_n dL_law_643 rfl 0 rfl ?_
    refine wp_iload_n dL_law_644 rfl 3 rfl ?_
    refine wp_iconst (v := 1) dL_law_645 (by decide) ?_
    refine wp_iadd dL_law_646 ?_
    refine wp_sld hs (by omega) (i + 1) (ix_add rfl rfl) (by omega) dL_law_647 ?_
    refine wp_if_eq 655 dL_law_648 (by decide) (fun c4 => ?_) (fun c4 => ?_)
    · exact absurd c4 c1
    · refine wp_iconst (v := 1) dL_law_651 (by decide) ?_
      refine wp_goto 656 dL_law_652 (by decide) ?_
      refine wp_callI (mm_siteV (av := [.int 1]) hC lL_90 (rfl) (by decide) ⟨_, rfl, rfl⟩ rfl rfl (Nat.le_of_ble_eq_true rfl) dL_law_656) (c_X10_match l (k + 13) _ _ _ _ _ Q hM1 hW.1) (by omega) (by decide) (fun r2 F2 A2 R2 G2 hq => ?_)
      obtain ⟨v2, hM2, f2⟩ := hq
      have hX2 := hX1.cong f2 hM2.rl
      refine wp_icmp_eq 1085 dL_law_659 (by decide) (fun c5 => ?_) (fun c5 => ?_)
      · exact kk _ _ _ _ _ hX2 hM2 hW
      · exact absurd ((v1).trans v2.symm) c5

set_option maxRecDepth 100000 in
set_option maxHeartbeats 600000 in
theorem law_nails {nm : String} {X : mmX} {l : Launch} {k L i : Nat} {xs : Nat → Int32} (hC : mm_C l (k + 19) 0 144 pT X) (hs : mm_scr L xs X) (hL : L ≤ 448) (hi : i + 7 ≤ L) {F A : mmF} {R : mmR} {G : mmG} {Q : QV} (hX : RepX F A R G Q) (hM : RepM F A R G Q) (hW : wfR Q) (kk : lwK nm X i) : WP (hL_law nm) X 144 664 [(0, .float 0), (1, .ref 0), (2, .ref 123), (3, .int (nI i))] [] F A R G := by
  refine wp_aload_n dL_law_664 rfl 1 rfl ?_
  refine wp_xload_n dL_law_665 rfl 0 rfl ?_
  refine wp_iload_n dL_law_666 rfl 3 rfl ?_
  refine wp_iconst (v := 1) dL_law_667 (by decide) ?_
  refine wp_iadd dL_law_668 ?_
  refine wp_sld hs (by omega) (i + 1) (ix_add rfl rfl) (by omega) dL_law_669 ?_
  refine wp_callI (mm_siteV (av := [.int (xs (i + 1))]) hC lL_91 (rfl) (by decide) ⟨_, rfl, rfl⟩ rfl rfl (Nat.le_of_ble_eq_true rfl) dL_law_670) (c_X9_nails l (k + 5) _ _ _ _ _ Q hX hW.1) (by omega) (by decide) (fun r1 F1 A1 R1 G1 hq => ?_)
  obtain ⟨v1, hX1, f1⟩ := hq
  have hM1 := hM.cong f1 hX1.rl
  refine wp_aload_n dL_law_673 rfl 2 rfl ?_
  refine wp_xload_n dL_law_674 rfl 0 rfl ?_
  refine wp_iload_n dL_law_675 rfl 3 rfl ?_
  refine wp_iconst (v := 1) dL_law_676 (by decide) ?_
  refine wp_iadd dL_law_677 ?_
  refine wp_sld hs (by omega) (i + 1) (ix_add rfl rfl) (by omega) dL_law_678 ?_
  refine wp_callI (mm_siteV (av := [.int (xs (i + 1))]) hC lL_94 (rfl) (by decide) ⟨_, rfl, rfl⟩ rfl rfl (Nat.le_of_ble_eq_true rfl) dL_law_679) (c_X10_nails l (k + 13) _ _ _ _ _ Q hM1 hW.1) (by omega) (by decide) (fun r2 F2 A2 R2 G2 hq => ?_)
  obtain ⟨v2, hM2, f2⟩ := hq
  have hX2 := hX1.cong f2 hM2.rl
  refine wp_icmp_eq 1085 dL_law_682 (by decide) (fun c1 => ?_) (fun c1 => ?_)
  · exact kk _ _ _ _ _ hX2 hM2 hW
  · exact absurd ((v1).trans v2.symm) c1

set_option maxRecDepth 100000 in
set_option maxHeartbeats 600000 in
theorem law_judge {nm : String} {X : mmX} {l : Launch} {k L i : Nat} {xs : Nat → Int32} (hC : mm_C l (k + 19) 0 144 pT X) (hs : mm_scr L xs X) (hL : L ≤ 448) (hi : i + 7 ≤ L) {F A : mmF} {R : mmR} {G : mmG} {Q : QV} (hX : RepX F A R G Q) (hM : RepM F A R G Q) (hW : wfR Q) (kk : lwK nm X i) : WP (hL_law nm) X 144 687 [(0, .float 0), (1, .ref 0), (2, .ref 123), (3, .int (nI i))] [] F A R G := by
  refine wp_aload_n dL_law_687 rfl 1 rfl ?_
  refine wp_xload_n dL_law_688 rfl 0 rfl ?_
  refine wp_iload_n dL_law_689 rfl 3 rfl ?_
  refine wp_iconst (v := 1) dL_law_690 (by decide) ?_
  refine wp_iadd dL_law_691 ?_
  refine wp_sld hs (by omega) (i + 1) (ix_add rfl rfl) (by omega) dL_law_692 ?_
  refine wp_xload_n dL_law_693 rfl 0 rfl ?_
  refine wp_iload_n dL_law_694 rfl 3 rfl ?_
  refine wp_iconst (v := 2) dL_law_695 (by decide) ?_
  refine wp_iadd dL_law_696 ?_
  refine wp_sld hs (by omega) (i + 2) (ix_add rfl rfl) (by omega) dL_law_697 ?_
  refine wp_callI (mm_siteV (av := [.int (xs (i + 1)), .int (xs (i + 2))]) hC lL_95 (rfl) (by decide) ⟨_, rfl, rfl⟩ rfl rfl (Nat.le_of_ble_eq_true rfl) dL_law_698) (c_X9_judge l (k + 5) _ _ _ _ _ _ Q hX hW.1) (by omega) (by decide) (fun r1 F1 A1 R1 G1 hq => ?_)
  obtain ⟨v1, hX1, f1⟩ := hq
  have hM1 := hM.cong f1 hX1.rl
  refine wp_aload_n dL_law_701 rfl 2 rfl ?_
  refine wp_xload_n dL_law_702 rfl 0 rfl ?_
  refine wp_iload_n dL_law_703 rfl 3 rfl ?_
  refine wp_iconst (v := 1) dL_law_704 (by decide) ?_
  refine wp_iadd dL_law_705 ?_
  refine wp_sld hs (by omega) (i + 1) (ix_add rfl rfl) (by omega) dL_law_706 ?_
  refine wp_xload_n dL_law_707 rfl 0 rfl ?_
  refine wp_iload_n dL_law_708 rfl 3 rfl ?_
  refine wp_iconst (v := 2) dL_law_709 (by decide) ?_
  refine wp_iadd dL_law_710 ?_
  refine wp_sld hs (by omega) (i + 2) (ix_add rfl rfl) (by omega) dL_law_711 ?_
  refine wp_callI (mm_siteV (av := [.int (xs (i + 1)), .int (xs (i + 2))]) hC lL_98 (rfl) (by decide) ⟨_, rfl, rfl⟩ rfl rfl (Nat.le_of_ble_eq_true rfl) dL_law_712) (c_X10_judge l (k + 13) _ _ _ _ _ _ Q hM1 hW.1) (by omega) (by decide) (fun r2 F2 A2 R2 G2 hq => ?_)
  obtain ⟨v2, hM2, f2⟩ := hq
  have hX2 := hX1.cong f2 hM2.rl
  refine wp_icmp_eq 1085 dL_law_715 (by decide) (fun c1 => ?_) (fun c1 => ?_)
  · exact kk _ _ _ _ _ hX2 hM2 hW
  · exact absurd ((v1).trans v2.symm) c1

set_option maxRecDepth 100000 in
set_option maxHeartbeats 600000 in
theorem law_share {nm : String} {X : mmX} {l : Launch} {k L i : Nat} {xs : Nat → Int32} (hC : mm_C l (k + 19) 0 144 pT X) (hs : mm_scr L xs X) (hL : L ≤ 448) (hi : i + 7 ≤ L) {F A : mmF} {R : mmR} {G : mmG} {Q : QV} (hX : RepX F A R G Q) (hM : RepM F A R G Q) (hW : wfR Q) (kk : lwK nm X i) : WP (hL_law nm) X 144 720 [(0, .float 0), (1, .ref 0), (2, .ref 123), (3, .int (nI i))] [] F A R G := by
  refine wp_aload_n dL_law_720 rfl 1 rfl ?_
  refine wp_xload_n dL_law_721 rfl 0 rfl ?_
  refine wp_iload_n dL_law_722 rfl 3 rfl ?_
  refine wp_iconst (v := 1) dL_law_723 (by decide) ?_
  refine wp_iadd dL_law_724 ?_
  refine wp_sld hs (by omega) (i + 1) (ix_add rfl rfl) (by omega) dL_law_725 ?_
  refine wp_xload_n dL_law_726 rfl 0 rfl ?_
  refine wp_iload_n dL_law_727 rfl 3 rfl ?_
  refine wp_iconst (v := 2) dL_law_728 (by decide) ?_
  refine wp_iadd dL_law_729 ?_
  refine wp_sld hs (by omega) (i + 2) (ix_add rfl rfl) (by omega) dL_law_730 ?_
  refine wp_if_eq 738 dL_law_731 (by decide) (fun c1 => ?_) (fun c1 => ?_)
  · refine wp_iconst (v := 0) dL_law_738 (by decide) ?_
    refine wp_callI (mm_siteV (av := [.int (xs (i + 1)), .int 0]) hC lL_99 (rfl) (by decide) ⟨_, rfl, rfl⟩ rfl rfl (Nat.le_of_ble_eq_true rfl) dL_law_739) (c_X9_share l (k + 1) _ _ _ _ _ _ Q hX hW.1) (by omega) (by decide) (fun r1 F1 A1 R1 G1 hq => ?_)
    obtain ⟨v1, hX1, f1⟩ := hq
    have hM1 := hM.cong f1 hX1.rl
    refine wp_aload_n dL_law_742 rfl 2 rfl ?_
    refine wp_xload_n dL_law_743 rfl 0 rfl ?_
    refine wp_iload_n dL_law_744 rfl 3 rfl ?_
    refine wp_iconst (v := 1) dL_law_745 (by decide) ?_
    refine wp_iadd dL_law_746 ?_
    refine wp_sld hs (by omega) (i + 1) (ix_add rfl rfl) (by omega) dL_law_747 ?_
    refine wp_xload_n dL_law_748 rfl 0 rfl ?_
    refine wp_iload_n dL_law_749 rfl 3 rfl ?_
    refine wp_iconst (v := 2) dL_law_750 (by decide) ?_
    refine wp_iadd dL_law_751 ?_
    refine wp_sld hs (by omega) (i + 2) (ix_add rfl rfl) (by omega) dL_law_752 ?_
    refine wp_if_eq 760 dL_law_753 (by decide) (fun c2 => ?_) (fun c2 => ?_)
    · refine wp_iconst (v := 0) dL_law_760 (by decide) ?_
      refine wp_callI (mm_siteV (av := [.int (xs (i + 1)), .int 0]) hC lL_102 (rfl) (by decide) ⟨_, rfl, rfl⟩ rfl rfl (Nat.le_of_ble_eq_true rfl) dL_law_761) (c_X10_share l (k + 13) _ _ _ _ _ _ Q hM1 hW.1) (by omega) (by decide) (fun r2 F2 A2 R2 G2 hq => ?_)
      obtain ⟨v2, hM2, f2⟩ := hq
      have hX2 := hX1.cong f2 hM2.rl
      refine wp_icmp_eq 1085 dL_law_764 (by decide) (fun c3 => ?_) (fun c3 => ?_)
      · exact kk _ _ _ _ _ hX2 hM2 hW
      · exact absurd ((v1).trans v2.symm) c3
    · exact absurd c1 c2
  · refine wp_iconst (v := 1) dL_law_734 (by decide) ?_
    refine wp_goto 739 dL_law_735 (by decide) ?_
    refine wp_callI (mm_siteV (av := [.int (xs (i + 1)), .int 1]) hC lL_99 (rfl) (by decide) ⟨_, rfl, rfl⟩ rfl rfl (Nat.le_of_ble_eq_true rfl) dL_law_739) (c_X9_share l (k + 1) _ _ _ _ _ _ Q hX hW.1) (by omega) (by decide) (fun r1 F1 A1 R1 G1 hq => ?_)
    obtain ⟨v1, hX1, f1⟩ := hq
    have hM1 := hM.cong f1 hX1.rl
    refine wp_aload_n dL_law_742 rfl 2 rfl ?_
    refine wp_xload_n dL_law_743 rfl 0 rfl ?_
    refine wp_iload_n dL_law_744 rfl 3 rfl ?_
    refine wp_iconst (v := 1) dL_law_745 (by decide) ?_
    refine wp_iadd dL_law_746 ?_
    refine wp_sld hs (by omega) (i + 1) (ix_add rfl rfl) (by omega) dL_law_747 ?_
    refine wp_xload_n dL_law_748 rfl 0 rfl ?_
    refine wp_iload_n dL_law_749 rfl 3 rfl ?_
    refine wp_iconst (v := 2) dL_law_750 (by decide) ?_
    refine wp_iadd dL_law_751 ?_
    refine wp_sld hs (by omega) (i + 2) (ix_add rfl rfl) (by omega) dL_law_752 ?_
    refine wp_if_eq 760 dL_law_753 (by decide) (fun c4 => ?_) (fun c4 => ?_)
    · exact absurd c4 c1
    · refine wp_iconst (v := 1) dL_law_756 (by decide) ?_
      refine wp_goto 761 dL_law_757 (by decide) ?_
      refine wp_callI (mm_siteV (av := [.int (xs (i + 1)), .int 1]) hC lL_102 (rfl) (by decide) ⟨_, rfl, rfl⟩ rfl rfl (Nat.le_of_ble_eq_true rfl) dL_law_761) (c_X10_share l (k + 13) _ _ _ _ _ _ Q hM1 hW.1) (by omega) (by decide) (fun r2 F2 A2 R2 G2 hq => ?_)
      obtain ⟨v2, hM2, f2⟩ := hq
      have hX2 := hX1.cong f2 hM2.rl
      refine wp_icmp_eq 1085 dL_law_764 (by decide) (fun c5 => ?_) (fun c5 => ?_)
      · exact kk _ _ _ _ _ hX2 hM2 hW
      · exact absurd ((v1).trans v2.symm) c5

set_option maxRecDepth 100000 in
set_option maxHeartbeats 600000 in
theorem law_see {nm : String} {X : mmX} {l : Launch} {k L i : Nat} {xs : Nat → Int32} (hC : mm_C l (k + 19) 0 144 pT X) (hs : mm_scr L xs X) (hL : L ≤ 448) (hi : i + 7 ≤ L) {F A : mmF} {R : mmR} {G : mmG} {Q : QV} (hX : RepX F A R G Q) (hM : RepM F A R G Q) (hW : wfR Q) (kk : lwK nm X i) : WP (hL_law nm) X 144 769 [(0, .float 0), (1, .ref 0), (2, .ref 123), (3, .int (nI i))] [] F A R G := by
  refine wp_aload_n dL_law_769 rfl 1 rfl ?_
  refine wp_xload_n dL_law_770 rfl 0 rfl ?_
  refine wp_iload_n dL_law_771 rfl 3 rfl ?_
  refine wp_iconst (v := 1) dL_law_772 (by decide) ?_
  refine wp_iadd dL_law_773 ?_
  refine wp_sld hs (by omega) (i + 1) (ix_add rfl rfl) (by omega) dL_law_774 ?_
  refine wp_xload_n dL_law_775 rfl 0 rfl ?_
  refine wp_iload_n dL_law_776 rfl 3 rfl ?_
  refine wp_iconst (v := 2) dL_law_777 (by decide) ?_
  refine wp_iadd dL_law_778 ?_
  refine wp_sld hs (by omega) (i + 2) (ix_add rfl rfl) (by omega) dL_law_779 ?_
  refine wp_xload_n dL_law_780 rfl 0 rfl ?_
  refine wp_iload_n dL_law_781 rfl 3 rfl ?_
  refine wp_iconst (v := 3) dL_law_782 (by decide) ?_
  refine wp_iadd dL_law_783 ?_
  refine wp_sld hs (by omega) (i + 3) (ix_add rfl rfl) (by omega) dL_law_784 ?_
  refine wp_callI (mm_siteV (av := [.int (xs (i + 1)), .int (xs (i + 2)), .int (xs (i + 3))]) hC lL_103 (rfl) (by decide) ⟨_, rfl, rfl⟩ rfl rfl (Nat.le_of_ble_eq_true rfl) dL_law_785) (c_X9_see l (k + 17) _ _ _ _ _ _ _ Q hX hW.1) (by omega) (by decide) (fun r1 F1 A1 R1 G1 hq => ?_)
  obtain ⟨v1, hX1, f1⟩ := hq
  have hM1 := hM.cong f1 hX1.rl
  refine wp_aload_n dL_law_788 rfl 2 rfl ?_
  refine wp_xload_n dL_law_789 rfl 0 rfl ?_
  refine wp_iload_n dL_law_790 rfl 3 rfl ?_
  refine wp_iconst (v := 1) dL_law_791 (by decide) ?_
  refine wp_iadd dL_law_792 ?_
  refine wp_sld hs (by omega) (i + 1) (ix_add rfl rfl) (by omega) dL_law_793 ?_
  refine wp_xload_n dL_law_794 rfl 0 rfl ?_
  refine wp_iload_n dL_law_795 rfl 3 rfl ?_
  refine wp_iconst (v := 2) dL_law_796 (by decide) ?_
  refine wp_iadd dL_law_797 ?_
  refine wp_sld hs (by omega) (i + 2) (ix_add rfl rfl) (by omega) dL_law_798 ?_
  refine wp_xload_n dL_law_799 rfl 0 rfl ?_
  refine wp_iload_n dL_law_800 rfl 3 rfl ?_
  refine wp_iconst (v := 3) dL_law_801 (by decide) ?_
  refine wp_iadd dL_law_802 ?_
  refine wp_sld hs (by omega) (i + 3) (ix_add rfl rfl) (by omega) dL_law_803 ?_
  refine wp_callI (mm_siteV (av := [.int (xs (i + 1)), .int (xs (i + 2)), .int (xs (i + 3))]) hC lL_106 (rfl) (by decide) ⟨_, rfl, rfl⟩ rfl rfl (Nat.le_of_ble_eq_true rfl) dL_law_804) (c_X10_see l (k + 16) _ _ _ _ _ _ _ Q hM1 hW.1) (by omega) (by decide) (fun r2 F2 A2 R2 G2 hq => ?_)
  obtain ⟨v2, hM2, f2⟩ := hq
  have hX2 := hX1.cong f2 hM2.rl
  refine wp_icmp_eq 1085 dL_law_807 (by decide) (fun c1 => ?_) (fun c1 => ?_)
  · exact kk _ _ _ _ _ hX2 hM2 (wfR_see hW)
  · exact absurd ((v1).trans v2.symm) c1

set_option maxRecDepth 100000 in
set_option maxHeartbeats 600000 in
theorem law_unsee {nm : String} {X : mmX} {l : Launch} {k L i : Nat} {xs : Nat → Int32} (hC : mm_C l (k + 19) 0 144 pT X) (hs : mm_scr L xs X) (hL : L ≤ 448) (hi : i + 7 ≤ L) {F A : mmF} {R : mmR} {G : mmG} {Q : QV} (hX : RepX F A R G Q) (hM : RepM F A R G Q) (hW : wfR Q) (kk : lwK nm X i) : WP (hL_law nm) X 144 812 [(0, .float 0), (1, .ref 0), (2, .ref 123), (3, .int (nI i))] [] F A R G := by
  refine wp_aload_n dL_law_812 rfl 1 rfl ?_
  refine wp_callI (mm_siteV (av := []) hC lL_107 (rfl) (by decide) ⟨_, rfl, rfl⟩ rfl rfl (Nat.le_of_ble_eq_true rfl) dL_law_813) (c_X9_unsee l (k + 18) _ _ _ _ Q hX hW.1) (by omega) (by decide) (fun r1 F1 A1 R1 G1 hq => ?_)
  obtain ⟨v1, hX1, f1⟩ := hq
  have hM1 := hM.cong f1 hX1.rl
  refine wp_aload_n dL_law_816 rfl 2 rfl ?_
  refine wp_callI (mm_siteV (av := []) hC lL_110 (rfl) (by decide) ⟨_, rfl, rfl⟩ rfl rfl (Nat.le_of_ble_eq_true rfl) dL_law_817) (c_X10_unsee l (k + 18) _ _ _ _ Q hM1 hW.1) (by omega) (by decide) (fun r2 F2 A2 R2 G2 hq => ?_)
  obtain ⟨v2, hM2, f2⟩ := hq
  have hX2 := hX1.cong f2 hM2.rl
  refine wp_icmp_eq 1085 dL_law_820 (by decide) (fun c1 => ?_) (fun c1 => ?_)
  · exact kk _ _ _ _ _ hX2 hM2 (wfR_unsee hW)
  · exact absurd ((v1).trans v2.symm) c1

set_option maxRecDepth 100000 in
set_option maxHeartbeats 600000 in
theorem law_holds {nm : String} {X : mmX} {l : Launch} {k L i : Nat} {xs : Nat → Int32} (hC : mm_C l (k + 19) 0 144 pT X) (hs : mm_scr L xs X) (hL : L ≤ 448) (hi : i + 7 ≤ L) {F A : mmF} {R : mmR} {G : mmG} {Q : QV} (hX : RepX F A R G Q) (hM : RepM F A R G Q) (hW : wfR Q) (kk : lwK nm X i) : WP (hL_law nm) X 144 825 [(0, .float 0), (1, .ref 0), (2, .ref 123), (3, .int (nI i))] [] F A R G := by
  refine wp_aload_n dL_law_825 rfl 1 rfl ?_
  refine wp_xload_n dL_law_826 rfl 0 rfl ?_
  refine wp_iload_n dL_law_827 rfl 3 rfl ?_
  refine wp_iconst (v := 1) dL_law_828 (by decide) ?_
  refine wp_iadd dL_law_829 ?_
  refine wp_sld hs (by omega) (i + 1) (ix_add rfl rfl) (by omega) dL_law_830 ?_
  refine wp_callP (mm_siteV (av := [.int (xs (i + 1))]) hC lL_111 (rfl) (by decide) ⟨_, rfl, rfl⟩ rfl rfl (Nat.le_of_ble_eq_true rfl) dL_law_831) (c_X9_holds l (k + 16) _ _ _ _ _ Q hX hW.1) (by omega) (by decide) ?_
  refine wp_aload_n dL_law_834 rfl 2 rfl ?_
  refine wp_xload_n dL_law_835 rfl 0 rfl ?_
  refine wp_iload_n dL_law_836 rfl 3 rfl ?_
  refine wp_iconst (v := 1) dL_law_837 (by decide) ?_
  refine wp_iadd dL_law_838 ?_
  refine wp_sld hs (by omega) (i + 1) (ix_add rfl rfl) (by omega) dL_law_839 ?_
  refine wp_callI (mm_siteV (av := [.int (xs (i + 1))]) hC lL_114 (rfl) (by decide) ⟨_, rfl, rfl⟩ rfl rfl (Nat.le_of_ble_eq_true rfl) dL_law_840) (c_X10_holds l (k + 16) _ _ _ _ _ Q hM hW.1 hW.2) (by omega) (by decide) (fun r2 F2 A2 R2 G2 hq => ?_)
  obtain ⟨v2, hM2, f2⟩ := hq
  have hX2 := hX.cong f2 hM2.rl
  refine wp_icmp_eq 1085 dL_law_843 (by decide) (fun c1 => ?_) (fun c1 => ?_)
  · exact kk _ _ _ _ _ hX2 hM2 hW
  · exact absurd ((rfl).trans v2.symm) c1

set_option maxRecDepth 100000 in
set_option maxHeartbeats 600000 in
theorem law_rests {nm : String} {X : mmX} {l : Launch} {k L i : Nat} {xs : Nat → Int32} (hC : mm_C l (k + 19) 0 144 pT X) (hs : mm_scr L xs X) (hL : L ≤ 448) (hi : i + 7 ≤ L) {F A : mmF} {R : mmR} {G : mmG} {Q : QV} (hX : RepX F A R G Q) (hM : RepM F A R G Q) (hW : wfR Q) (kk : lwK nm X i) : WP (hL_law nm) X 144 848 [(0, .float 0), (1, .ref 0), (2, .ref 123), (3, .int (nI i))] [] F A R G := by
  refine wp_aload_n dL_law_848 rfl 1 rfl ?_
  refine wp_xload_n dL_law_849 rfl 0 rfl ?_
  refine wp_iload_n dL_law_850 rfl 3 rfl ?_
  refine wp_iconst (v := 1) dL_law_851 (by decide) ?_
  refine wp_iadd dL_law_852 ?_
  refine wp_sld hs (by omega) (i + 1) (ix_add rfl rfl) (by omega) dL_law_853 ?_
  refine wp_callI (mm_siteV (av := [.int (xs (i + 1))]) hC lL_115 (rfl) (by decide) ⟨_, rfl, rfl⟩ rfl rfl (Nat.le_of_ble_eq_true rfl) dL_law_854) (c_X9_rests l (k + 4) _ _ _ _ _ Q hX hW.1) (by omega) (by decide) (fun r1 F1 A1 R1 G1 hq => ?_)
  obtain ⟨v1, hX1, f1⟩ := hq
  have hM1 := hM.cong f1 hX1.rl
  refine wp_aload_n dL_law_857 rfl 2 rfl ?_
  refine wp_xload_n dL_law_858 rfl 0 rfl ?_
  refine wp_iload_n dL_law_859 rfl 3 rfl ?_
  refine wp_iconst (v := 1) dL_law_860 (by decide) ?_
  refine wp_iadd dL_law_861 ?_
  refine wp_sld hs (by omega) (i + 1) (ix_add rfl rfl) (by omega) dL_law_862 ?_
  refine wp_callI (mm_siteV (av := [.int (xs (i + 1))]) hC lL_118 (rfl) (by decide) ⟨_, rfl, rfl⟩ rfl rfl (Nat.le_of_ble_eq_true rfl) dL_law_863) (c_X10_rests l (k + 12) _ _ _ _ _ Q hM1 hW.1) (by omega) (by decide) (fun r2 F2 A2 R2 G2 hq => ?_)
  obtain ⟨v2, hM2, f2⟩ := hq
  have hX2 := hX1.cong f2 hM2.rl
  refine wp_icmp_eq 1085 dL_law_866 (by decide) (fun c1 => ?_) (fun c1 => ?_)
  · exact kk _ _ _ _ _ hX2 hM2 hW
  · exact absurd ((v1).trans v2.symm) c1

set_option maxRecDepth 100000 in
set_option maxHeartbeats 600000 in
theorem law_odds {nm : String} {X : mmX} {l : Launch} {k L i : Nat} {xs : Nat → Int32} (hC : mm_C l (k + 19) 0 144 pT X) (hs : mm_scr L xs X) (hL : L ≤ 448) (hi : i + 7 ≤ L) {F A : mmF} {R : mmR} {G : mmG} {Q : QV} (hX : RepX F A R G Q) (hM : RepM F A R G Q) (hW : wfR Q) (kk : lwK nm X i) : WP (hL_law nm) X 144 871 [(0, .float 0), (1, .ref 0), (2, .ref 123), (3, .int (nI i))] [] F A R G := by
  refine wp_aload_n dL_law_871 rfl 1 rfl ?_
  refine wp_xload_n dL_law_872 rfl 0 rfl ?_
  refine wp_iload_n dL_law_873 rfl 3 rfl ?_
  refine wp_iconst (v := 1) dL_law_874 (by decide) ?_
  refine wp_iadd dL_law_875 ?_
  refine wp_sld hs (by omega) (i + 1) (ix_add rfl rfl) (by omega) dL_law_876 ?_
  refine wp_xload_n dL_law_877 rfl 0 rfl ?_
  refine wp_iload_n dL_law_878 rfl 3 rfl ?_
  refine wp_iconst (v := 2) dL_law_879 (by decide) ?_
  refine wp_iadd dL_law_880 ?_
  refine wp_sld hs (by omega) (i + 2) (ix_add rfl rfl) (by omega) dL_law_881 ?_
  refine wp_xload_n dL_law_882 rfl 0 rfl ?_
  refine wp_iload_n dL_law_883 rfl 3 rfl ?_
  refine wp_iconst (v := 3) dL_law_884 (by decide) ?_
  refine wp_iadd dL_law_885 ?_
  refine wp_sld hs (by omega) (i + 3) (ix_add rfl rfl) (by omega) dL_law_886 ?_
  refine wp_xload_n dL_law_887 rfl 0 rfl ?_
  refine wp_iload_n dL_law_888 rfl 3 rfl ?_
  refine wp_iconst (v := 4) dL_law_889 (by decide) ?_
  refine wp_iadd dL_law_890 ?_
  refine wp_sld hs (by omega) (i + 4) (ix_add rfl rfl) (by omega) dL_law_891 ?_
  refine wp_xload_n dL_law_892 rfl 0 rfl ?_
  refine wp_iload_n dL_law_893 rfl 3 rfl ?_
  refine wp_iconst (v := 5) dL_law_894 (by decide) ?_
  refine wp_iadd dL_law_895 ?_
  refine wp_sld hs (by omega) (i + 5) (ix_add rfl rfl) (by omega) dL_law_896 ?_
  refine wp_xload_n dL_law_897 rfl 0 rfl ?_
  refine wp_iload_n dL_law_898 rfl 3 rfl ?_
  refine wp_bipush (v := 6) dL_law_899 (by decide) ?_
  refine wp_iadd dL_law_901 ?_
  refine wp_sld hs (by omega) (i + 6) (ix_add rfl rfl) (by omega) dL_law_902 ?_
  refine wp_if_eq 910 dL_law_903 (by decide) (fun c1 => ?_) (fun c1 => ?_)
  · refine wp_iconst (v := 0) dL_law_910 (by decide) ?_
    refine wp_callI (mm_siteV (av := [.int (xs (i + 1)), .int (xs (i + 2)), .int (xs (i + 3)), .int (xs (i + 4)), .int (xs (i + 5)), .int 0]) hC lL_119 (rfl) (by decide) ⟨_, rfl, rfl⟩ rfl rfl (Nat.le_of_ble_eq_true rfl) dL_law_911) (c_X9_odds l k _ _ _ _ _ _ _ _ _ _ Q hX hW.1) (by omega) (by decide) (fun r1 F1 A1 R1 G1 hq => ?_)
    obtain ⟨v1, hX1, f1⟩ := hq
    have hM1 := hM.cong f1 hX1.rl
    refine wp_aload_n dL_law_914 rfl 2 rfl ?_
    refine wp_xload_n dL_law_915 rfl 0 rfl ?_
    refine wp_iload_n dL_law_916 rfl 3 rfl ?_
    refine wp_iconst (v := 1) dL_law_917 (by decide) ?_
    refine wp_iadd dL_law_918 ?_
    refine wp_sld hs (by omega) (i + 1) (ix_add rfl rfl) (by omega) dL_law_919 ?_
    refine wp_xload_n dL_law_920 rfl 0 rfl ?_
    refine wp_iload_n dL_law_921 rfl 3 rfl ?_
    refine wp_iconst (v := 2) dL_law_922 (by decide) ?_
    refine wp_iadd dL_law_923 ?_
    refine wp_sld hs (by omega) (i + 2) (ix_add rfl rfl) (by omega) dL_law_924 ?_
    refine wp_xload_n dL_law_925 rfl 0 rfl ?_
    refine wp_iload_n dL_law_926 rfl 3 rfl ?_
    refine wp_iconst (v := 3) dL_law_927 (by decide) ?_
    refine wp_iadd dL_law_928 ?_
    refine wp_sld hs (by omega) (i + 3) (ix_add rfl rfl) (by omega) dL_law_929 ?_
    refine wp_xload_n dL_law_930 rfl 0 rfl ?_
    refine wp_iload_n dL_law_931 rfl 3 rfl ?_
    refine wp_iconst (v := 4) dL_law_932 (by decide) ?_
    refine wp_iadd dL_law_933 ?_
    refine wp_sld hs (by omega) (i + 4) (ix_add rfl rfl) (by omega) dL_law_934 ?_
    refine wp_xload_n dL_law_935 rfl 0 rfl ?_
    refine wp_iload_n dL_law_936 rfl 3 rfl ?_
    refine wp_iconst (v := 5) dL_law_937 (by decide) ?_
    refine wp_iadd dL_law_938 ?_
    refine wp_sld hs (by omega) (i + 5) (ix_add rfl rfl) (by omega) dL_law_939 ?_
    refine wp_xload_n dL_law_940 rfl 0 rfl ?_
    refine wp_iload_n dL_law_941 rfl 3 rfl ?_
    refine wp_bipush (v := 6) dL_law_942 (by decide) ?_
    refine wp_iadd dL_law_944 ?_
    refine wp_sld hs (by omega) (i + 6) (ix_add rfl rfl) (by omega) dL_law_945 ?_
    refine wp_if_eq 953 dL_law_946 (by decide) (fun c2 => ?_) (fun c2 => ?_)
    · refine wp_iconst (v := 0) dL_law_953 (by decide) ?_
      refine wp_callI (mm_siteV (av := [.int (xs (i + 1)), .int (xs (i + 2)), .int (xs (i + 3)), .int (xs (i + 4)), .int (xs (i + 5)), .int 0]) hC lL_123 (rfl) (by decide) ⟨_, rfl, rfl⟩ rfl rfl (Nat.le_of_ble_eq_true rfl) dL_law_954) (c_X10_odds l (k + 15) _ _ _ _ _ _ _ _ _ _ Q hM1 hW.1) (by omega) (by decide) (fun r2 F2 A2 R2 G2 hq => ?_)
      obtain ⟨v2, hM2, f2⟩ := hq
      have hX2 := hX1.cong f2 hM2.rl
      refine wp_icmp_eq 1085 dL_law_957 (by decide) (fun c3 => ?_) (fun c3 => ?_)
      · exact kk _ _ _ _ _ hX2 hM2 hW
      · exact absurd ((v1).trans v2.symm) c3
    · exact absurd c1 c2
  · refine wp_iconst (v := 1) dL_law_906 (by decide) ?_
    refine wp_goto 911 dL_law_907 (by decide) ?_
    refine wp_callI (mm_siteV (av := [.int (xs (i + 1)), .int (xs (i + 2)), .int (xs (i + 3)), .int (xs (i + 4)), .int (xs (i + 5)), .int 1]) hC lL_119 (rfl) (by decide) ⟨_, rfl, rfl⟩ rfl rfl (Nat.le_of_ble_eq_true rfl) dL_law_911) (c_X9_odds l k _ _ _ _ _ _ _ _ _ _ Q hX hW.1) (by omega) (by decide) (fun r1 F1 A1 R1 G1 hq => ?_)
    obtain ⟨v1, hX1, f1⟩ := hq
    have hM1 := hM.cong f1 hX1.rl
    refine wp_aload_n dL_law_914 rfl 2 rfl ?_
    refine wp_xload_n dL_law_915 rfl 0 rfl ?_
    refine wp_iload_n dL_law_916 rfl 3 rfl ?_
    refine wp_iconst (v := 1) dL_law_917 (by decide) ?_
    refine wp_iadd dL_law_918 ?_
    refine wp_sld hs (by omega) (i + 1) (ix_add rfl rfl) (by omega) dL_law_919 ?_
    refine wp_xload_n dL_law_920 rfl 0 rfl ?_
    refine wp_iload_n dL_law_921 rfl 3 rfl ?_
    refine wp_iconst (v := 2) dL_law_922 (by decide) ?_
    refine wp_iadd dL_law_923 ?_
    refine wp_sld hs (by omega) (i + 2) (ix_add rfl rfl) (by omega) dL_law_924 ?_
    refine wp_xload_n dL_law_925 rfl 0 rfl ?_
    refine wp_iload_n dL_law_926 rfl 3 rfl ?_
    refine wp_iconst (v := 3) dL_law_927 (by decide) ?_
    refine wp_iadd dL_law_928 ?_
    refine wp_sld hs (by omega) (i + 3) (ix_add rfl rfl) (by omega) dL_law_929 ?_
    refine wp_xload_n dL_law_930 rfl 0 rfl ?_
    refine wp_iload_n dL_law_931 rfl 3 rfl ?_
    refine wp_iconst (v := 4) dL_law_932 (by decide) ?_
    refine wp_iadd dL_law_933 ?_
    refine wp_sld hs (by omega) (i + 4) (ix_add rfl rfl) (by omega) dL_law_934 ?_
    refine wp_xload_n dL_law_935 rfl 0 rfl ?_
    refine wp_iload_n dL_law_936 rfl 3 rfl ?_
    refine wp_iconst (v := 5) dL_law_937 (by decide) ?_
    refine wp_iadd dL_law_938 ?_
    refine wp_sld hs (by omega) (i + 5) (ix_add rfl rfl) (by omega) dL_law_939 ?_
    refine wp_xload_n dL_law_940 rfl 0 rfl ?_
    refine wp_iload_n dL_law_941 rfl 3 rfl ?_
    refine wp_bipush (v := 6) dL_law_942 (by decide) ?_
    refine wp_iadd dL_law_944 ?_
    refine wp_sld hs (by omega) (i + 6) (ix_add rfl rfl) (by omega) dL_law_945 ?_
    refine wp_if_eq 953 dL_law_946 (by decide) (fun c4 => ?_) (fun c4 => ?_)
    · exact absurd c4 c1
    · refine wp_iconst (v := 1) dL_law_949 (by decide) ?_
      refine wp_goto 954 dL_law_950 (by decide) ?_
      refine wp_callI (mm_siteV (av := [.int (xs (i + 1)), .int (xs (i + 2)), .int (xs (i + 3)), .int (xs (i + 4)), .int (xs (i + 5)), .int 1]) hC lL_123 (rfl) (by decide) ⟨_, rfl, rfl⟩ rfl rfl (Nat.le_of_ble_eq_true rfl) dL_law_954) (c_X10_odds l (k + 15) _ _ _ _ _ _ _ _ _ _ Q hM1 hW.1) (by omega) (by decide) (fun r2 F2 A2 R2 G2 hq => ?_)
      obtain ⟨v2, hM2, f2⟩ := hq
      have hX2 := hX1.cong f2 hM2.rl
      refine wp_icmp_eq 1085 dL_law_957 (by decide) (fun c5 => ?_) (fun c5 => ?_)
      · exact kk _ _ _ _ _ hX2 hM2 hW
      · exact absurd ((v1).trans v2.symm) c5

set_option maxRecDepth 100000 in
set_option maxHeartbeats 600000 in
theorem law_seed {nm : String} {X : mmX} {l : Launch} {k L i : Nat} {xs : Nat → Int32} (hC : mm_C l (k + 19) 0 144 pT X) (hs : mm_scr L xs X) (hL : L ≤ 448) (hi : i + 7 ≤ L) {F A : mmF} {R : mmR} {G : mmG} {Q : QV} (hX : RepX F A R G Q) (hM : RepM F A R G Q) (hW : wfR Q) (kk : lwK nm X i) : WP (hL_law nm) X 144 962 [(0, .float 0), (1, .ref 0), (2, .ref 123), (3, .int (nI i))] [] F A R G := by
  refine wp_aload_n dL_law_962 rfl 1 rfl ?_
  refine wp_xload_n dL_law_963 rfl 0 rfl ?_
  refine wp_iload_n dL_law_964 rfl 3 rfl ?_
  refine wp_iconst (v := 1) dL_law_965 (by decide) ?_
  refine wp_iadd dL_law_966 ?_
  refine wp_sld hs (by omega) (i + 1) (ix_add rfl rfl) (by omega) dL_law_967 ?_
  refine wp_i2l dL_law_968 ?_
  refine wp_bipush (v := 32) dL_law_969 (by decide) ?_
  refine wp_lshl dL_law_971 ?_
  refine wp_xload_n dL_law_972 rfl 0 rfl ?_
  refine wp_iload_n dL_law_973 rfl 3 rfl ?_
  refine wp_iconst (v := 2) dL_law_974 (by decide) ?_
  refine wp_iadd dL_law_975 ?_
  refine wp_sld hs (by omega) (i + 2) (ix_add rfl rfl) (by omega) dL_law_976 ?_
  refine wp_i2l dL_law_977 ?_
  refine wp_ldc2 (v := 4294967295) k_1117 dL_law_978 ?_
  refine wp_land dL_law_981 ?_
  refine wp_lor dL_law_982 ?_
  refine wp_callL (mm_siteV (av := [.long ((((xs (i + 1)).toInt64) <<< ((32 : Int32).toInt64 &&& 63)) ||| (((xs (i + 2)).toInt64) &&& 4294967295))]) hC lL_126 (rfl) (by decide) ⟨_, rfl, rfl⟩ rfl rfl (Nat.le_of_ble_eq_true rfl) dL_law_983) (c_X9_seed l (k + 18) _ _ _ _ _ Q hX hW.1) (by omega) (by decide) (fun r1 F1 A1 R1 G1 hq => ?_)
  obtain ⟨v1, hX1, f1⟩ := hq
  have hM1 := hM.cong f1 hX1.rl
  refine wp_aload_n dL_law_986 rfl 2 rfl ?_
  refine wp_xload_n dL_law_987 rfl 0 rfl ?_
  refine wp_iload_n dL_law_988 rfl 3 rfl ?_
  refine wp_iconst (v := 1) dL_law_989 (by decide) ?_
  refine wp_iadd dL_law_990 ?_
  refine wp_sld hs (by omega) (i + 1) (ix_add rfl rfl) (by omega) dL_law_991 ?_
  refine wp_i2l dL_law_992 ?_
  refine wp_bipush (v := 32) dL_law_993 (by decide) ?_
  refine wp_lshl dL_law_995 ?_
  refine wp_xload_n dL_law_996 rfl 0 rfl ?_
  refine wp_iload_n dL_law_997 rfl 3 rfl ?_
  refine wp_iconst (v := 2) dL_law_998 (by decide) ?_
  refine wp_iadd dL_law_999 ?_
  refine wp_sld hs (by omega) (i + 2) (ix_add rfl rfl) (by omega) dL_law_1000 ?_
  refine wp_i2l dL_law_1001 ?_
  refine wp_ldc2 (v := 4294967295) k_1117 dL_law_1002 ?_
  refine wp_land dL_law_1005 ?_
  refine wp_lor dL_law_1006 ?_
  refine wp_callL (mm_siteV (av := [.long ((((xs (i + 1)).toInt64) <<< ((32 : Int32).toInt64 &&& 63)) ||| (((xs (i + 2)).toInt64) &&& 4294967295))]) hC lL_130 (rfl) (by decide) ⟨_, rfl, rfl⟩ rfl rfl (Nat.le_of_ble_eq_true rfl) dL_law_1007) (c_X10_seed l (k + 18) _ _ _ _ _ Q hM1 hW.1) (by omega) (by decide) (fun r2 F2 A2 R2 G2 hq => ?_)
  obtain ⟨v2, hM2, f2⟩ := hq
  have hX2 := hX1.cong f2 hM2.rl
  refine wp_lcmp dL_law_1010 ?_
  refine wp_if_eq 1085 dL_law_1011 (by decide) (fun c1 => ?_) (fun c1 => ?_)
  · exact kk _ _ _ _ _ hX2 hM2 (wfR_seed hW)
  · exact absurd (by rw [v1, v2]; exact lg_cmp_self _) c1

set_option maxRecDepth 100000 in
set_option maxHeartbeats 600000 in
theorem law_fairs {nm : String} {X : mmX} {l : Launch} {k L i : Nat} {xs : Nat → Int32} (hC : mm_C l (k + 19) 0 144 pT X) (hs : mm_scr L xs X) (hL : L ≤ 448) (hi : i + 7 ≤ L) {F A : mmF} {R : mmR} {G : mmG} {Q : QV} (hX : RepX F A R G Q) (hM : RepM F A R G Q) (hW : wfR Q) (kk : lwK nm X i) : WP (hL_law nm) X 144 1016 [(0, .float 0), (1, .ref 0), (2, .ref 123), (3, .int (nI i))] [] F A R G := by
  refine wp_aload_n dL_law_1016 rfl 1 rfl ?_
  refine wp_xload_n dL_law_1017 rfl 0 rfl ?_
  refine wp_iload_n dL_law_1018 rfl 3 rfl ?_
  refine wp_iconst (v := 1) dL_law_1019 (by decide) ?_
  refine wp_iadd dL_law_1020 ?_
  refine wp_sld hs (by omega) (i + 1) (ix_add rfl rfl) (by omega) dL_law_1021 ?_
  refine wp_callI (mm_siteV (av := [.int (xs (i + 1))]) hC lL_131 (rfl) (by decide) ⟨_, rfl, rfl⟩ rfl rfl (Nat.le_of_ble_eq_true rfl) dL_law_1022) (c_X9_fairs l (k + 5) _ _ _ _ _ Q hX hW.1) (by omega) (by decide) (fun r1 F1 A1 R1 G1 hq => ?_)
  obtain ⟨v1, hX1, f1⟩ := hq
  have hM1 := hM.cong f1 hX1.rl
  refine wp_aload_n dL_law_1025 rfl 2 rfl ?_
  refine wp_xload_n dL_law_1026 rfl 0 rfl ?_
  refine wp_iload_n dL_law_1027 rfl 3 rfl ?_
  refine wp_iconst (v := 1) dL_law_1028 (by decide) ?_
  refine wp_iadd dL_law_1029 ?_
  refine wp_sld hs (by omega) (i + 1) (ix_add rfl rfl) (by omega) dL_law_1030 ?_
  refine wp_callI (mm_siteV (av := [.int (xs (i + 1))]) hC lL_134 (rfl) (by decide) ⟨_, rfl, rfl⟩ rfl rfl (Nat.le_of_ble_eq_true rfl) dL_law_1031) (c_X10_fairs l (k + 15) _ _ _ _ _ Q hM1 hW.1) (by omega) (by decide) (fun r2 F2 A2 R2 G2 hq => ?_)
  obtain ⟨v2, hM2, f2⟩ := hq
  have hX2 := hX1.cong f2 hM2.rl
  refine wp_icmp_eq 1085 dL_law_1034 (by decide) (fun c1 => ?_) (fun c1 => ?_)
  · exact kk _ _ _ _ _ hX2 hM2 (wfR_fairs hW)
  · exact absurd ((v1).trans v2.symm) c1

set_option maxRecDepth 100000 in
set_option maxHeartbeats 600000 in
theorem law_keep {nm : String} {X : mmX} {l : Launch} {k L i : Nat} {xs : Nat → Int32} (hC : mm_C l (k + 19) 0 144 pT X) (hs : mm_scr L xs X) (hL : L ≤ 448) (hi : i + 7 ≤ L) {F A : mmF} {R : mmR} {G : mmG} {Q : QV} (hX : RepX F A R G Q) (hM : RepM F A R G Q) (hW : wfR Q) (kk : lwK nm X i) : WP (hL_law nm) X 144 1039 [(0, .float 0), (1, .ref 0), (2, .ref 123), (3, .int (nI i))] [] F A R G := by
  refine wp_aload_n dL_law_1039 rfl 1 rfl ?_
  refine wp_xload_n dL_law_1040 rfl 0 rfl ?_
  refine wp_iload_n dL_law_1041 rfl 3 rfl ?_
  refine wp_iconst (v := 1) dL_law_1042 (by decide) ?_
  refine wp_iadd dL_law_1043 ?_
  refine wp_sld hs (by omega) (i + 1) (ix_add rfl rfl) (by omega) dL_law_1044 ?_
  refine wp_callI (mm_siteV (av := [.int (xs (i + 1))]) hC lL_135 (rfl) (by decide) ⟨_, rfl, rfl⟩ rfl rfl (Nat.le_of_ble_eq_true rfl) dL_law_1045) (c_X9_keep l (k + 14) _ _ _ _ _ Q hX hW.1) (by omega) (by decide) (fun r1 F1 A1 R1 G1 hq => ?_)
  obtain ⟨v1, hX1, f1⟩ := hq
  have hM1 := hM.cong f1 hX1.rl
  refine wp_aload_n dL_law_1048 rfl 2 rfl ?_
  refine wp_xload_n dL_law_1049 rfl 0 rfl ?_
  refine wp_iload_n dL_law_1050 rfl 3 rfl ?_
  refine wp_iconst (v := 1) dL_law_1051 (by decide) ?_
  refine wp_iadd dL_law_1052 ?_
  refine wp_sld hs (by omega) (i + 1) (ix_add rfl rfl) (by omega) dL_law_1053 ?_
  refine wp_callI (mm_siteV (av := [.int (xs (i + 1))]) hC lL_138 (rfl) (by decide) ⟨_, rfl, rfl⟩ rfl rfl (Nat.le_of_ble_eq_true rfl) dL_law_1054) (c_X10_keep l (k + 17) _ _ _ _ _ Q hM1 hW.1) (by omega) (by decide) (fun r2 F2 A2 R2 G2 hq => ?_)
  obtain ⟨v2, hM2, f2⟩ := hq
  have hX2 := hX1.cong f2 hM2.rl
  refine wp_icmp_eq 1085 dL_law_1057 (by decide) (fun c1 => ?_) (fun c1 => ?_)
  · exact kk _ _ _ _ _ hX2 hM2 (wfR_keep hW)
  · exact absurd ((v1).trans v2.symm) c1

set_option maxRecDepth 100000 in
set_option maxHeartbeats 600000 in
theorem law_again {nm : String} {X : mmX} {l : Launch} {k L i : Nat} {xs : Nat → Int32} (hC : mm_C l (k + 19) 0 144 pT X) (hs : mm_scr L xs X) (hL : L ≤ 448) (hi : i + 7 ≤ L) {F A : mmF} {R : mmR} {G : mmG} {Q : QV} (hX : RepX F A R G Q) (hM : RepM F A R G Q) (hW : wfR Q) (kk : lwK nm X i) : WP (hL_law nm) X 144 1062 [(0, .float 0), (1, .ref 0), (2, .ref 123), (3, .int (nI i))] [] F A R G := by
  refine wp_aload_n dL_law_1062 rfl 1 rfl ?_
  refine wp_xload_n dL_law_1063 rfl 0 rfl ?_
  refine wp_iload_n dL_law_1064 rfl 3 rfl ?_
  refine wp_iconst (v := 1) dL_law_1065 (by decide) ?_
  refine wp_iadd dL_law_1066 ?_
  refine wp_sld hs (by omega) (i + 1) (ix_add rfl rfl) (by omega) dL_law_1067 ?_
  refine wp_callI (mm_siteV (av := [.int (xs (i + 1))]) hC lL_139 (rfl) (by decide) ⟨_, rfl, rfl⟩ rfl rfl (Nat.le_of_ble_eq_true rfl) dL_law_1068) (c_X9_again l (k + 13) _ _ _ _ _ Q hX hW.1) (by omega) (by decide) (fun r1 F1 A1 R1 G1 hq => ?_)
  obtain ⟨v1, hX1, f1⟩ := hq
  have hM1 := hM.cong f1 hX1.rl
  refine wp_aload_n dL_law_1071 rfl 2 rfl ?_
  refine wp_xload_n dL_law_1072 rfl 0 rfl ?_
  refine wp_iload_n dL_law_1073 rfl 3 rfl ?_
  refine wp_iconst (v := 1) dL_law_1074 (by decide) ?_
  refine wp_iadd dL_law_1075 ?_
  refine wp_sld hs (by omega) (i + 1) (ix_add rfl rfl) (by omega) dL_law_1076 ?_
  refine wp_callI (mm_siteV (av := [.int (xs (i + 1))]) hC lL_142 (rfl) (by decide) ⟨_, rfl, rfl⟩ rfl rfl (Nat.le_of_ble_eq_true rfl) dL_law_1077) (c_X10_again l (k + 17) _ _ _ _ _ Q hM1 hW.1) (by omega) (by decide) (fun r2 F2 A2 R2 G2 hq => ?_)
  obtain ⟨v2, hM2, f2⟩ := hq
  have hX2 := hX1.cong f2 hM2.rl
  refine wp_icmp_eq 1085 dL_law_1080 (by decide) (fun c1 => ?_) (fun c1 => ?_)
  · exact kk _ _ _ _ _ hX2 hM2 (wfR_again hW)
  · exact absurd ((v1).trans v2.symm) c1
