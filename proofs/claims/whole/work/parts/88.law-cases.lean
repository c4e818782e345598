/-! ===== the law's last cases ===== -/

theorem op_2 {E : gE} {w : gW} {im : gIm} {Q : gQ} {c : CSt} {f : Nat → Int} {m pa sv : Int → Int} {n : Int} {I kc ks : Nat} (hL : (gX E).2.1 ≤ 3584) (hI : I + 7 ≤ (gX E).2.1) (hn6 : n < 600) (hkc : 541 ≤ kc) (hks : 3246 ≤ ks) (hCp : Cp E w im c f m pa sv n) (hN : ∀ w' im' c' f' m' pa' sv' kc' ks', Cp E w' im' c' f' m' pa' sv' (n + 1) → kc ≤ kc' + 541 → ks ≤ ks' + 3246 → G E 8 m_L_law 2306 [(0, .ref (gX E).1), (1, .ref (gad E 0)), (2, .ref (gad E 62)), (3, .ref (gad E 68)), (4, .ref (gad E 69)), (5, .int (iI (I : Int)))] [] w' im' kc' ks' Q) : G E 8 m_L_law 281 [(0, .ref (gX E).1), (1, .ref (gad E 0)), (2, .ref (gad E 62)), (3, .ref (gad E 68)), (4, .ref (gad E 69)), (5, .int (iI (I : Int)))] [] w im kc ks Q := by
  obtain ⟨hx, hm, u4, u5, u6, u7, ⟨g0, h68⟩, ⟨gd, hgd⟩, hP⟩ := id hCp
  have hR := hP.1
  obtain ⟨ok, hz, h4⟩ := id hR
  have oz := hx.2.1.1.okz
  have hgn : gN E = 70 := hm.1
  have k0 : g_cell E w im (gad E 0) _ := g_mut 0 (by omega) hx.1.2.1
  have hr2c : 0 ≤ f 2 ∧ f 2 ≤ 8 := by rw [hP.2.1.1]; exact hx.2.2.2.1
  obtain ⟨ta, ra, ma, hga⟩ : ∃ t r m', (t, r, m') = gAddP m ((sc E (I + 1)), (sc E (I + 2)), (sc E (I + 3)), (sc E (I + 4)), (sc E (I + 5)), (sc E (I + 6))) := ⟨_, _, _, rfl⟩
  have hB := B_addProduct hR (q := ((sc E (I + 1)), (sc E (I + 2)), (sc E (I + 3)), (sc E (I + 4)), (sc E (I + 5)), (sc E (I + 6))))
  rw [← hga] at hB
  have hA : An sIA sIS (eAddP c ((sc E (I + 1)), (sc E (I + 2)), (sc E (I + 3)), (sc E (I + 4)), (sc E (I + 5)), (sc E (I + 6)))).1 (ta, ra) := hB.1
  have hta := An_rng hA
  refine g_aload_n (n := 1) (i := 1) rfl rfl d_L_law_281 ?_
  refine g_aload_n (n := 0) (i := 0) rfl rfl d_L_law_282 ?_
  refine g_iload (i := 5) rfl d_L_law_283 ?_
  refine g_iconst_i d_L_law_285 ?_
  refine g_iadd_i d_L_law_286 ?_
  refine g_sldI (k := 1) rfl (by omega) hL d_L_law_287 ?_
  refine g_aload_n (n := 0) (i := 0) rfl rfl d_L_law_288 ?_
  refine g_iload (i := 5) rfl d_L_law_289 ?_
  refine g_iconst_i d_L_law_291 ?_
  refine g_iadd_i d_L_law_292 ?_
  refine g_sldI (k := 2) rfl (by omega) hL d_L_law_293 ?_
  refine g_aload_n (n := 0) (i := 0) rfl rfl d_L_law_294 ?_
  refine g_iload (i := 5) rfl d_L_law_295 ?_
  refine g_iconst_i d_L_law_297 ?_
  refine g_iadd_i d_L_law_298 ?_
  refine g_sldI (k := 3) rfl (by omega) hL d_L_law_299 ?_
  refine g_aload_n (n := 0) (i := 0) rfl rfl d_L_law_300 ?_
  refine g_iload (i := 5) rfl d_L_law_301 ?_
  refine g_iconst_i d_L_law_303 ?_
  refine g_iadd_i d_L_law_304 ?_
  refine g_sldI (k := 4) rfl (by omega) hL d_L_law_305 ?_
  refine g_aload_n (n := 0) (i := 0) rfl rfl d_L_law_306 ?_
  refine g_iload (i := 5) rfl d_L_law_307 ?_
  refine g_iconst_i d_L_law_309 ?_
  refine g_iadd_i d_L_law_310 ?_
  refine g_sldI (k := 5) rfl (by omega) hL d_L_law_311 ?_
  refine g_aload_n (n := 0) (i := 0) rfl rfl d_L_law_312 ?_
  refine g_iload (i := 5) rfl d_L_law_313 ?_
  refine g_bipush_i (by decide) d_L_law_315 ?_
  refine g_iadd_i d_L_law_317 ?_
  refine g_sldI (k := 6) rfl (by omega) hL d_L_law_318 ?_
  refine g_aload_n (n := 3) (i := 3) rfl rfl d_L_law_319 ?_
  refine g_callW8 rfl rfl e_L_addProduct l_L_144 st_L_addProduct (by decide) (by omega) (by omega) (Nat.le_of_ble_eq_true rfl) d_L_law_320 (c_L_addProduct hx sc_rng sc_rng sc_rng sc_rng sc_rng sc_rng hA h68 (fun w1 im1 g1 hLX h681 h69k hval => ?_))
  refine g_retn ?_
  obtain ⟨hm1, u41, u51, u61, u71⟩ := hCp.mid hLX
  have k2 : g_cell E w1 im1 (gad E 62) _ := g_mut 62 (by omega) hm1.2.1
  have h691 : w1 69 = dbE gd := (h69k 69 rfl).trans hgd
  refine g_istore (i := 6) (by decide) rfl d_L_law_323 ?_
  refine g_aload_n (n := 2) (i := 2) rfl rfl d_L_law_325 ?_
  refine g_aload_n (n := 0) (i := 0) rfl rfl d_L_law_326 ?_
  refine g_iload (i := 5) rfl d_L_law_327 ?_
  refine g_iconst_i d_L_law_329 ?_
  refine g_iadd_i d_L_law_330 ?_
  refine g_sldI (k := 1) rfl (by omega) hL d_L_law_331 ?_
  refine g_aload_n (n := 0) (i := 0) rfl rfl d_L_law_332 ?_
  refine g_iload (i := 5) rfl d_L_law_333 ?_
  refine g_iconst_i d_L_law_335 ?_
  refine g_iadd_i d_L_law_336 ?_
  refine g_sldI (k := 2) rfl (by omega) hL d_L_law_337 ?_
  refine g_aload_n (n := 0) (i := 0) rfl rfl d_L_law_338 ?_
  refine g_iload (i := 5) rfl d_L_law_339 ?_
  refine g_iconst_i d_L_law_341 ?_
  refine g_iadd_i d_L_law_342 ?_
  refine g_sldI (k := 3) rfl (by omega) hL d_L_law_343 ?_
  refine g_aload_n (n := 0) (i := 0) rfl rfl d_L_law_344 ?_
  refine g_iload (i := 5) rfl d_L_law_345 ?_
  refine g_iconst_i d_L_law_347 ?_
  refine g_iadd_i d_L_law_348 ?_
  refine g_sldI (k := 4) rfl (by omega) hL d_L_law_349 ?_
  refine g_aload_n (n := 0) (i := 0) rfl rfl d_L_law_350 ?_
  refine g_iload (i := 5) rfl d_L_law_351 ?_
  refine g_iconst_i d_L_law_353 ?_
  refine g_iadd_i d_L_law_354 ?_
  refine g_sldI (k := 5) rfl (by omega) hL d_L_law_355 ?_
  refine g_aload_n (n := 0) (i := 0) rfl rfl d_L_law_356 ?_
  refine g_iload (i := 5) rfl d_L_law_357 ?_
  refine g_bipush_i (by decide) d_L_law_359 ?_
  refine g_iadd_i d_L_law_361 ?_
  refine g_sldI (k := 6) rfl (by omega) hL d_L_law_362 ?_
  refine g_callV6 rfl rfl e_M_addProduct l_L_147 iv_M_addProduct 9 (by decide) rfl (by assumption) (by decide) (Nat.zero_le _) (Nat.zero_le _) (Nat.le_of_ble_eq_true rfl) d_L_law_363 (c_M_addProduct hm1 ok u41 u61 hr2c sc_rng sc_rng sc_rng sc_rng sc_rng sc_rng (fun t9 r9 m9 w2 he9 hM => ?_))
  refine g_ret ?_
  have e1 : t9 = ta := congrArg Prod.fst (he9.trans hga.symm)
  have e2 : r9 = ra := congrArg (fun x : Int × Int × (Int → Int) => x.2.1) (he9.trans hga.symm)
  obtain ⟨f2, m2, p2, hC2, ht2, h682, h692⟩ := hCp.out hB (he9.trans hga.symm) hLX h681 h691 hM
  have ht2 : f2 6 = ta := ht2.trans e1
  have hr2 : ta = 0 → r9 = ra := fun _ => e2
  have k2 : g_cell E w2 im1 (gad E 62) _ := g_mut 62 (by omega) hC2.2.1.2.1
  refine g_istore (i := 7) (by decide) rfl d_L_law_366 ?_
  refine g_aload_n (n := 2) (i := 2) rfl rfl d_L_law_368 ?_
  refine g_callV0 rfl rfl e_M_thrown l_L_141 iv_M_thrown 9 (by decide) rfl (by assumption) (by decide) (Nat.zero_le _) (Nat.zero_le _) (Nat.le_of_ble_eq_true rfl) d_L_law_369 (c_M_thrown hC2.2.1 ?_)
  refine g_ret ?_
  rw [ht2]
  refine g_iload (i := 6) rfl d_L_law_372 ?_
  refine g_icmp_eq (tgt := 379) d_L_law_374 (by decide) (fun _ => ?_) (fun h => absurd rfl h)
  refine g_iload (i := 6) rfl d_L_law_379 ?_
  refine g_if_ne_i (tgt := 396) (by omega) d_L_law_381 (by decide) (fun h381 => ?_) (fun h381 => ?_)
  · refine g_goto (tgt := 2306) (by decide) d_L_law_396 ?_
    exact g_cut (lv' := [(0, .ref (gX E).1), (1, .ref (gad E 0)), (2, .ref (gad E 62)), (3, .ref (gad E 68)), (4, .ref (gad E 69)), (5, .int (iI (I : Int)))]) ⟨rfl, rfl, rfl, rfl, rfl, rfl, trivial⟩ (hN _ _ _ _ _ _ _ _ _ hC2 (by omega) (by omega))
  · refine g_aload_n (n := 3) (i := 3) rfl rfl d_L_law_384 ?_
    refine g_iconst_i d_L_law_385 ?_
    have h0 : ta = 0 := by omega
    refine g_laload (j := 0) (f := g1) (g_mut 68 (by omega) h682) (iI_nI 0).symm (by decide) (by rfl) d_L_law_386 ?_
    refine g_iload (i := 7) rfl d_L_law_387 ?_
    refine g_i2l d_L_law_389 ?_
    refine g_lcmp d_L_law_390 ?_
    rw [hval h0, ← hr2 h0, lgc]
    refine g_if_eq_i (tgt := 396) (by decide) d_L_law_391 (by decide) (fun h391 => ?_) (fun h => absurd h (by decide))
    refine g_goto (tgt := 2306) (by decide) d_L_law_396 ?_
    exact g_cut (lv' := [(0, .ref (gX E).1), (1, .ref (gad E 0)), (2, .ref (gad E 62)), (3, .ref (gad E 68)), (4, .ref (gad E 69)), (5, .int (iI (I : Int)))]) ⟨rfl, rfl, rfl, rfl, rfl, rfl, trivial⟩ (hN _ _ _ _ _ _ _ _ _ hC2 (by omega) (by omega))

theorem op_0 {E : gE} {w : gW} {im : gIm} {Q : gQ} {c : CSt} {f : Nat → Int} {m pa sv : Int → Int} {n : Int} {I kc ks : Nat} (hL : (gX E).2.1 ≤ 3584) (hI : I + 7 ≤ (gX E).2.1) (hn6 : n < 600) (hkc : 541 ≤ kc) (hks : 3246 ≤ ks) (hCp : Cp E w im c f m pa sv n) (hN : ∀ w' im' c' f' m' pa' sv' kc' ks', Cp E w' im' c' f' m' pa' sv' (n + 1) → kc ≤ kc' + 541 → ks ≤ ks' + 3246 → G E 8 m_L_law 2306 [(0, .ref (gX E).1), (1, .ref (gad E 0)), (2, .ref (gad E 62)), (3, .ref (gad E 68)), (4, .ref (gad E 69)), (5, .int (iI (I : Int)))] [] w' im' kc' ks' Q) : G E 8 m_L_law 200 [(0, .ref (gX E).1), (1, .ref (gad E 0)), (2, .ref (gad E 62)), (3, .ref (gad E 68)), (4, .ref (gad E 69)), (5, .int (iI (I : Int)))] [] w im kc ks Q := by
  obtain ⟨hx, hm, u4, u5, u6, u7, ⟨g0, h68⟩, ⟨gd, hgd⟩, hP⟩ := id hCp
  have hR := hP.1
  obtain ⟨ok, hz, h4⟩ := id hR
  have oz := hx.2.1.1.okz
  have hgn : gN E = 70 := hm.1
  have k0 : g_cell E w im (gad E 0) _ := g_mut 0 (by omega) hx.1.2.1
  have hr2c : 0 ≤ f 2 ∧ f 2 ≤ 8 := by rw [hP.2.1.1]; exact hx.2.2.2.1
  refine g_aload_n (n := 1) (i := 1) rfl rfl d_L_law_200 ?_
  refine g_callV0 rfl rfl e_X_clear l_L_131 iv_X_clear 0 (by decide) rfl k0 (by decide) (by omega) (by omega) (Nat.le_of_ble_eq_true rfl) d_L_law_201 (c_X_clear hx (fun o c2 w1 im1 he hN0 => ?_))
  have e1 : o = oV (m 3) := (congrArg Prod.fst he).trans (by show oV (zc (cN c)) = _; rw [hz.1.2.2.2])
  have e2 : c2 = (eClear c).2 := congrArg Prod.snd he
  rw [e2] at hN0
  rw [e1]
  refine g_ret ?_
  have hLX := LX.of hN0
  obtain ⟨hm1, u41, u51, u61, u71⟩ := hCp.mid hLX
  have k2 : g_cell E w1 im1 (gad E 62) _ := g_mut 62 (by omega) hm1.2.1
  
  refine g_aload_n (n := 2) (i := 2) rfl rfl d_L_law_204 ?_
  refine g_callV0 rfl rfl e_M_clear l_L_134 iv_M_clear 9 (by decide) rfl (by assumption) (by decide) (Nat.zero_le _) (Nat.zero_le _) (Nat.le_of_ble_eq_true rfl) d_L_law_205 (c_M_clear hm1 ok (fun w2 hM hw => ?_))
  refine g_ret ?_
  obtain ⟨f2, m2, hC2⟩ := hCp.clear hLX (hN0.1 69 (by omega)) (hN0.1 68 (by omega)) hM hw
  have k2 : g_cell E w2 im1 (gad E 62) _ := g_mut 62 (by omega) hC2.2.1.2.1
  refine g_icmp_eq (tgt := 2306) d_L_law_208 (by decide) (fun _ => ?_) (fun h => absurd rfl h)
  exact g_cut (lv' := [(0, .ref (gX E).1), (1, .ref (gad E 0)), (2, .ref (gad E 62)), (3, .ref (gad E 68)), (4, .ref (gad E 69)), (5, .int (iI (I : Int)))]) ⟨rfl, rfl, rfl, rfl, rfl, rfl, trivial⟩ (hN _ _ _ _ _ _ _ _ _ hC2 (by omega) (by omega))

theorem op_33 {E : gE} {w : gW} {im : gIm} {Q : gQ} {c : CSt} {f : Nat → Int} {m pa sv : Int → Int} {n : Int} {I kc ks : Nat} (hL : (gX E).2.1 ≤ 3584) (hI : I + 7 ≤ (gX E).2.1) (hn6 : n < 600) (hkc : 541 ≤ kc) (hks : 3246 ≤ ks) (hCp : Cp E w im c f m pa sv n) (hN : ∀ w' im' c' f' m' pa' sv' kc' ks', Cp E w' im' c' f' m' pa' sv' (n + 1) → kc ≤ kc' + 541 → ks ≤ ks' + 3246 → G E 8 m_L_law 2306 [(0, .ref (gX E).1), (1, .ref (gad E 0)), (2, .ref (gad E 62)), (3, .ref (gad E 68)), (4, .ref (gad E 69)), (5, .int (iI (I : Int)))] [] w' im' kc' ks' Q) : G E 8 m_L_law 2249 [(0, .ref (gX E).1), (1, .ref (gad E 0)), (2, .ref (gad E 62)), (3, .ref (gad E 68)), (4, .ref (gad E 69)), (5, .int (iI (I : Int)))] [] w im kc ks Q := by
  obtain ⟨hx, hm, u4, u5, u6, u7, ⟨g0, h68⟩, ⟨gd, hgd⟩, hP⟩ := id hCp
  have hR := hP.1
  obtain ⟨ok, hz, h4⟩ := id hR
  have oz := hx.2.1.1.okz
  have hgn : gN E = 70 := hm.1
  have k0 : g_cell E w im (gad E 0) _ := g_mut 0 (by omega) hx.1.2.1
  have hr2c : 0 ≤ f 2 ∧ f 2 ≤ 8 := by rw [hP.2.1.1]; exact hx.2.2.2.1
  refine g_aload_n (n := 1) (i := 1) rfl rfl d_L_law_2249 ?_
  refine g_callV0 rfl rfl e_X_snapshot l_L_246 iv_X_snapshot 0 (by decide) rfl k0 (by decide) (by omega) (by omega) (Nat.le_of_ble_eq_true rfl) d_L_law_2250 (c_X_snapshot hx (fun o c2 w1 im1 he hN0 => ?_))
  have e1 : o = oV (m 3) := (congrArg Prod.fst he).trans (by show oV (zc (cN c)) = _; rw [hz.1.2.2.2])
  have e2 : c2 = (eSnap c).2 := congrArg Prod.snd he
  rw [e2] at hN0
  rw [e1]
  refine g_ret ?_
  have hLX := LX.of hN0
  obtain ⟨hm1, u41, u51, u61, u71⟩ := hCp.mid hLX
  have k2 : g_cell E w1 im1 (gad E 62) _ := g_mut 62 (by omega) hm1.2.1
  
  refine g_aload_n (n := 2) (i := 2) rfl rfl d_L_law_2253 ?_
  refine g_callV0 rfl rfl e_M_snapshot l_L_249 iv_M_snapshot 9 (by decide) rfl (by assumption) (by decide) (Nat.zero_le _) (Nat.zero_le _) (Nat.le_of_ble_eq_true rfl) d_L_law_2254 (c_M_snapshot hm1 u51 (fun w2 hM h65 hw => ?_))
  refine g_ret ?_
  obtain ⟨f2, sv2, hC2⟩ := hCp.snap hLX (hN0.1 69 (by omega)) (hN0.1 68 (by omega)) hM h65 hw
  have k2 : g_cell E w2 im1 (gad E 62) _ := g_mut 62 (by omega) hC2.2.1.2.1
  refine g_icmp_eq (tgt := 2306) d_L_law_2257 (by decide) (fun _ => ?_) (fun h => absurd rfl h)
  exact g_cut (lv' := [(0, .ref (gX E).1), (1, .ref (gad E 0)), (2, .ref (gad E 62)), (3, .ref (gad E 68)), (4, .ref (gad E 69)), (5, .int (iI (I : Int)))]) ⟨rfl, rfl, rfl, rfl, rfl, rfl, trivial⟩ (hN _ _ _ _ _ _ _ _ _ hC2 (by omega) (by omega))

theorem op_27 {E : gE} {w : gW} {im : gIm} {Q : gQ} {c : CSt} {f : Nat → Int} {m pa sv : Int → Int} {n : Int} {I kc ks : Nat} (hL : (gX E).2.1 ≤ 3584) (hI : I + 7 ≤ (gX E).2.1) (hn6 : n < 600) (hkc : 541 ≤ kc) (hks : 3246 ≤ ks) (hCp : Cp E w im c f m pa sv n) (hN : ∀ w' im' c' f' m' pa' sv' kc' ks', Cp E w' im' c' f' m' pa' sv' (n + 1) → kc ≤ kc' + 541 → ks ≤ ks' + 3246 → G E 8 m_L_law 2306 [(0, .ref (gX E).1), (1, .ref (gad E 0)), (2, .ref (gad E 62)), (3, .ref (gad E 68)), (4, .ref (gad E 69)), (5, .int (iI (I : Int)))] [] w' im' kc' ks' Q) : G E 8 m_L_law 2004 [(0, .ref (gX E).1), (1, .ref (gad E 0)), (2, .ref (gad E 62)), (3, .ref (gad E 68)), (4, .ref (gad E 69)), (5, .int (iI (I : Int)))] [] w im kc ks Q := by
  obtain ⟨hx, hm, u4, u5, u6, u7, ⟨g0, h68⟩, ⟨gd, hgd⟩, hP⟩ := id hCp
  have hR := hP.1
  obtain ⟨ok, hz, h4⟩ := id hR
  have oz := hx.2.1.1.okz
  have hgn : gN E = 70 := hm.1
  have k0 : g_cell E w im (gad E 0) _ := g_mut 0 (by omega) hx.1.2.1
  have hr2c : 0 ≤ f 2 ∧ f 2 ≤ 8 := by rw [hP.2.1.1]; exact hx.2.2.2.1
  refine g_aload_n (n := 1) (i := 1) rfl rfl d_L_law_2004 ?_
  refine g_callV0 rfl rfl e_X_isConsistent l_L_225 iv_X_isConsistent 0 (by decide) rfl k0 (by decide) (by omega) (by omega) (Nat.le_of_ble_eq_true rfl) d_L_law_2005 (c_X_isConsistent hx (fun o w1 im1 ho hN0 => ?_))
  rcases ho with ⟨hcon, rfl⟩ | ⟨hcon, rfl⟩
  · refine g_ret ?_
    have hLX := LX.of hN0
    obtain ⟨hm1, u41, u51, u61, u71⟩ := hCp.mid hLX
    have k2 : g_cell E w1 im1 (gad E 62) _ := g_mut 62 (by omega) hm1.2.1
    refine g_aload_n (n := 2) (i := 2) rfl rfl d_L_law_2008 ?_
    refine g_callV0 rfl rfl e_M_isConsistent l_L_229 iv_M_isConsistent 9 (by decide) rfl (by assumption) (by decide) (Nat.zero_le _) (Nat.zero_le _) (Nat.le_of_ble_eq_true rfl) d_L_law_2009 (c_M_isConsistent (hQ2 := fun h => absurd ((con_eq ok hz).1 hcon) h) hm1 ok (fun hk w2 hM => ?_))
    refine g_ret ?_
    obtain ⟨f2, hC, ht2, h682, h692⟩ := hCp.read hLX ((hN0.1 68 (by omega)).trans h68) ((hN0.1 69 (by omega)).trans hgd) hM
    have hC2 := hC.mono
    have k2 : g_cell E w2 im1 (gad E 62) _ := g_mut 62 (by omega) hC2.2.1.2.1
    refine g_icmp_eq_i (tgt := 2306) (by decide) (by decide) d_L_law_2012 (by decide) (fun h2012 => ?_) (fun h => absurd h (by decide))
    exact g_cut (lv' := [(0, .ref (gX E).1), (1, .ref (gad E 0)), (2, .ref (gad E 62)), (3, .ref (gad E 68)), (4, .ref (gad E 69)), (5, .int (iI (I : Int)))]) ⟨rfl, rfl, rfl, rfl, rfl, rfl, trivial⟩ (hN _ _ _ _ _ _ _ _ _ hC2 (by omega) (by omega))
  · refine g_ret ?_
    have hLX := LX.of hN0
    obtain ⟨hm1, u41, u51, u61, u71⟩ := hCp.mid hLX
    have k2 : g_cell E w1 im1 (gad E 62) _ := g_mut 62 (by omega) hm1.2.1
    refine g_aload_n (n := 2) (i := 2) rfl rfl d_L_law_2008 ?_
    refine g_callV0 rfl rfl e_M_isConsistent l_L_229 iv_M_isConsistent 9 (by decide) rfl (by assumption) (by decide) (Nat.zero_le _) (Nat.zero_le _) (Nat.le_of_ble_eq_true rfl) d_L_law_2009 (c_M_isConsistent (hQ1 := fun h => absurd ((con_eq ok hz).2 h) hcon) hm1 ok (fun hk w2 hM => ?_))
    refine g_ret ?_
    obtain ⟨f2, hC, ht2, h682, h692⟩ := hCp.read hLX ((hN0.1 68 (by omega)).trans h68) ((hN0.1 69 (by omega)).trans hgd) hM
    have hC2 := hC.mono
    have k2 : g_cell E w2 im1 (gad E 62) _ := g_mut 62 (by omega) hC2.2.1.2.1
    refine g_icmp_eq_i (tgt := 2306) (by decide) (by decide) d_L_law_2012 (by decide) (fun h2012 => ?_) (fun h => absurd h (by decide))
    exact g_cut (lv' := [(0, .ref (gX E).1), (1, .ref (gad E 0)), (2, .ref (gad E 62)), (3, .ref (gad E 68)), (4, .ref (gad E 69)), (5, .int (iI (I : Int)))]) ⟨rfl, rfl, rfl, rfl, rfl, rfl, trivial⟩ (hN _ _ _ _ _ _ _ _ _ hC2 (by omega) (by omega))

theorem op_25 {E : gE} {w : gW} {im : gIm} {Q : gQ} {c : CSt} {f : Nat → Int} {m pa sv : Int → Int} {n : Int} {I kc ks : Nat} (hL : (gX E).2.1 ≤ 3584) (hI : I + 7 ≤ (gX E).2.1) (hn6 : n < 600) (hkc : 541 ≤ kc) (hks : 3246 ≤ ks) (hCp : Cp E w im c f m pa sv n) (hN : ∀ w' im' c' f' m' pa' sv' kc' ks', Cp E w' im' c' f' m' pa' sv' (n + 1) → kc ≤ kc' + 541 → ks ≤ ks' + 3246 → G E 8 m_L_law 2306 [(0, .ref (gX E).1), (1, .ref (gad E 0)), (2, .ref (gad E 62)), (3, .ref (gad E 68)), (4, .ref (gad E 69)), (5, .int (iI (I : Int)))] [] w' im' kc' ks' Q) : G E 8 m_L_law 1861 [(0, .ref (gX E).1), (1, .ref (gad E 0)), (2, .ref (gad E 62)), (3, .ref (gad E 68)), (4, .ref (gad E 69)), (5, .int (iI (I : Int)))] [] w im kc ks Q := by
  obtain ⟨hx, hm, u4, u5, u6, u7, ⟨g0, h68⟩, ⟨gd, hgd⟩, hP⟩ := id hCp
  have hR := hP.1
  obtain ⟨ok, hz, h4⟩ := id hR
  have oz := hx.2.1.1.okz
  have hgn : gN E = 70 := hm.1
  have k0 : g_cell E w im (gad E 0) _ := g_mut 0 (by omega) hx.1.2.1
  have hr2c : 0 ≤ f 2 ∧ f 2 ≤ 8 := by rw [hP.2.1.1]; exact hx.2.2.2.1
  refine g_aload_n (n := 1) (i := 1) rfl rfl d_L_law_1861 ?_
  refine g_aload (i := 4) rfl d_L_law_1862 ?_
  refine g_callW2 rfl rfl e_L_meanRides l_L_217 st_L_meanRides (by decide) (by omega) (by omega) (Nat.le_of_ble_eq_true rfl) d_L_law_1864 (c_L_meanRides hx  hgd (fun hc w1 im1 gq hLX h681 h691 hv => ?_) (fun hc w1 im1 hLX h681 h691 => ?_))
  · refine g_retn ?_
    have hLX := hLX
    obtain ⟨hm1, u41, u51, u61, u71⟩ := hCp.mid hLX
    have k2 : g_cell E w1 im1 (gad E 62) _ := g_mut 62 (by omega) hm1.2.1
    have h68k := h681
    have h681 : w1 68 = lgE g0 := h681.trans h68
    have h691 : w1 69 = dbE gq := h691
    
    refine g_istore (i := 6) (by decide) rfl d_L_law_1867 ?_
    refine g_aload_n (n := 2) (i := 2) rfl rfl d_L_law_1869 ?_
    refine g_callV0 rfl rfl e_M_meanRides l_L_220 iv_M_meanRides 9 (by decide) rfl (by assumption) (by decide) (Nat.zero_le _) (Nat.zero_le _) (Nat.le_of_ble_eq_true rfl) d_L_law_1870 (c_M_meanRides (hQ1 := fun h => absurd (show inForce (cN c) ≤ 0 by rw [inForce_eq ok hz]; omega) hc) hm1 ok (fun hif w2 hM => ?_))
    refine g_ret ?_
    obtain ⟨f2, hC, ht2, h682, h692⟩ := hCp.read hLX h681 h691 hM
    have hC2 := hC.mono
    have k2 : g_cell E w2 im1 (gad E 62) _ := g_mut 62 (by omega) hC2.2.1.2.1
    refine g_dstore (i := 7) (by decide) rfl d_L_law_1873 ?_
    refine g_aload_n (n := 2) (i := 2) rfl rfl d_L_law_1875 ?_
    refine g_callV0 rfl rfl e_M_thrown l_L_141 iv_M_thrown 9 (by decide) rfl (by assumption) (by decide) (Nat.zero_le _) (Nat.zero_le _) (Nat.le_of_ble_eq_true rfl) d_L_law_1876 (c_M_thrown hC2.2.1 ?_)
    refine g_ret ?_
    rw [ht2]
    refine g_iload (i := 6) rfl d_L_law_1879 ?_
    refine g_icmp_eq (tgt := 1886) d_L_law_1881 (by decide) (fun _ => ?_) (fun h => absurd rfl h)
    refine g_iload (i := 6) rfl d_L_law_1886 ?_
    refine g_if_ne_i (tgt := 1923) (by decide) d_L_law_1888 (by decide) (fun h => absurd h (by decide)) (fun h1888 => ?_)
    refine g_aload (i := 4) rfl d_L_law_1891 ?_
    refine g_iconst_i d_L_law_1893 ?_
    refine g_daload (j := 0) (f := gq) (g_mut 69 (by omega) h692) (iI_nI 0).symm (by decide) (by rfl) d_L_law_1894 ?_
    refine g_dload (i := 7) rfl d_L_law_1895 ?_
    refine g_dcmp d_L_law_1897 ?_
    rw [hv, allRides_eq ok hz, inForce_eq ok hz, dcs (nn_ddiv (fun h => by rw [iI_0, iI_eq (by have := ifM_rng ok.2.2.2.1; omega) (by omega)] at h; exact hif h))]
    refine g_if_eq_i (tgt := 1923) (by decide) d_L_law_1898 (by decide) (fun h1898 => ?_) (fun h => absurd h (by decide))
    refine g_goto (tgt := 2306) (by decide) d_L_law_1923 ?_
    exact g_cut (lv' := [(0, .ref (gX E).1), (1, .ref (gad E 0)), (2, .ref (gad E 62)), (3, .ref (gad E 68)), (4, .ref (gad E 69)), (5, .int (iI (I : Int)))]) ⟨rfl, rfl, rfl, rfl, rfl, rfl, trivial⟩ (hN _ _ _ _ _ _ _ _ _ hC2 (by omega) (by omega))
  · refine g_retn ?_
    have hLX := hLX
    obtain ⟨hm1, u41, u51, u61, u71⟩ := hCp.mid hLX
    have k2 : g_cell E w1 im1 (gad E 62) _ := g_mut 62 (by omega) hm1.2.1
    have h68k := h681
    have h681 : w1 68 = lgE g0 := h681.trans h68
    have h691 : w1 69 = dbE gd := h691.trans hgd
    
    refine g_istore (i := 6) (by decide) rfl d_L_law_1867 ?_
    refine g_aload_n (n := 2) (i := 2) rfl rfl d_L_law_1869 ?_
    refine g_callV0 rfl rfl e_M_meanRides l_L_220 iv_M_meanRides 9 (by decide) rfl (by assumption) (by decide) (Nat.zero_le _) (Nat.zero_le _) (Nat.le_of_ble_eq_true rfl) d_L_law_1870 (c_M_meanRides (hQ2 := fun h => absurd hc (by rw [inForce_eq ok hz]; have := ifM_rng ok.2.2.2.1; omega)) hm1 ok (fun hif w2 hM => ?_))
    refine g_ret ?_
    obtain ⟨f2, hC, ht2, h682, h692⟩ := hCp.read hLX h681 h691 hM
    have hC2 := hC.mono
    have k2 : g_cell E w2 im1 (gad E 62) _ := g_mut 62 (by omega) hC2.2.1.2.1
    refine g_dstore (i := 7) (by decide) rfl d_L_law_1873 ?_
    refine g_aload_n (n := 2) (i := 2) rfl rfl d_L_law_1875 ?_
    refine g_callV0 rfl rfl e_M_thrown l_L_141 iv_M_thrown 9 (by decide) rfl (by assumption) (by decide) (Nat.zero_le _) (Nat.zero_le _) (Nat.le_of_ble_eq_true rfl) d_L_law_1876 (c_M_thrown hC2.2.1 ?_)
    refine g_ret ?_
    rw [ht2]
    refine g_iload (i := 6) rfl d_L_law_1879 ?_
    refine g_icmp_eq (tgt := 1886) d_L_law_1881 (by decide) (fun _ => ?_) (fun h => absurd rfl h)
    refine g_iload (i := 6) rfl d_L_law_1886 ?_
    refine g_if_ne_i (tgt := 1923) (by decide) d_L_law_1888 (by decide) (fun h1888 => ?_) (fun h => absurd h (by decide))
    refine g_goto (tgt := 2306) (by decide) d_L_law_1923 ?_
    exact g_cut (lv' := [(0, .ref (gX E).1), (1, .ref (gad E 0)), (2, .ref (gad E 62)), (3, .ref (gad E 68)), (4, .ref (gad E 69)), (5, .int (iI (I : Int)))]) ⟨rfl, rfl, rfl, rfl, rfl, rfl, trivial⟩ (hN _ _ _ _ _ _ _ _ _ hC2 (by omega) (by omega))

theorem op_26 {E : gE} {w : gW} {im : gIm} {Q : gQ} {c : CSt} {f : Nat → Int} {m pa sv : Int → Int} {n : Int} {I kc ks : Nat} (hL : (gX E).2.1 ≤ 3584) (hI : I + 7 ≤ (gX E).2.1) (hn6 : n < 600) (hkc : 541 ≤ kc) (hks : 3246 ≤ ks) (hCp : Cp E w im c f m pa sv n) (hN : ∀ w' im' c' f' m' pa' sv' kc' ks', Cp E w' im' c' f' m' pa' sv' (n + 1) → kc ≤ kc' + 541 → ks ≤ ks' + 3246 → G E 8 m_L_law 2306 [(0, .ref (gX E).1), (1, .ref (gad E 0)), (2, .ref (gad E 62)), (3, .ref (gad E 68)), (4, .ref (gad E 69)), (5, .int (iI (I : Int)))] [] w' im' kc' ks' Q) : G E 8 m_L_law 1926 [(0, .ref (gX E).1), (1, .ref (gad E 0)), (2, .ref (gad E 62)), (3, .ref (gad E 68)), (4, .ref (gad E 69)), (5, .int (iI (I : Int)))] [] w im kc ks Q := by
  obtain ⟨hx, hm, u4, u5, u6, u7, ⟨g0, h68⟩, ⟨gd, hgd⟩, hP⟩ := id hCp
  have hR := hP.1
  obtain ⟨ok, hz, h4⟩ := id hR
  have oz := hx.2.1.1.okz
  have hgn : gN E = 70 := hm.1
  have k0 : g_cell E w im (gad E 0) _ := g_mut 0 (by omega) hx.1.2.1
  have hr2c : 0 ≤ f 2 ∧ f 2 ≤ 8 := by rw [hP.2.1.1]; exact hx.2.2.2.1
  refine g_aload_n (n := 1) (i := 1) rfl rfl d_L_law_1926 ?_
  refine g_aload_n (n := 0) (i := 0) rfl rfl d_L_law_1927 ?_
  refine g_iload (i := 5) rfl d_L_law_1928 ?_
  refine g_iconst_i d_L_law_1930 ?_
  refine g_iadd_i d_L_law_1931 ?_
  refine g_sldI (k := 1) rfl (by omega) hL d_L_law_1932 ?_
  refine g_aload (i := 4) rfl d_L_law_1933 ?_
  refine g_callW3 rfl rfl e_L_closedShare l_L_221 st_L_closedShare (by decide) (by omega) (by omega) (Nat.le_of_ble_eq_true rfl) d_L_law_1935 (c_L_closedShare hx sc_rng hgd (fun hg hc w1 im1 gq hLX h681 h691 hv => ?_) (fun hg w1 im1 hLX h681 h691 => ?_) (fun hg hc w1 im1 hLX h681 h691 => ?_))
  · refine g_retn ?_
    have z0 := ok.1
    have hcm : 0 ≤ cmM m ∧ cmM m ≤ 20000 := by unfold cmM; (repeat' split) <;> omega
    have hg' : 0 ≤ sc E (I + 1) ∧ sc E (I + 1) < m 1 := by have h9 := hg; unfold isG at h9; rw [hz.1.2.1] at h9; exact h9
    have hLX := hLX
    obtain ⟨hm1, u41, u51, u61, u71⟩ := hCp.mid hLX
    have k2 : g_cell E w1 im1 (gad E 62) _ := g_mut 62 (by omega) hm1.2.1
    have h68k := h681
    have h681 : w1 68 = lgE g0 := h681.trans h68
    have h691 : w1 69 = dbE gq := h691
    
    refine g_istore (i := 6) (by decide) rfl d_L_law_1938 ?_
    refine g_aload_n (n := 2) (i := 2) rfl rfl d_L_law_1940 ?_
    refine g_aload_n (n := 0) (i := 0) rfl rfl d_L_law_1941 ?_
    refine g_iload (i := 5) rfl d_L_law_1942 ?_
    refine g_iconst_i d_L_law_1944 ?_
    refine g_iadd_i d_L_law_1945 ?_
    refine g_sldI (k := 1) rfl (by omega) hL d_L_law_1946 ?_
    refine g_callV1 rfl rfl e_M_closedShare l_L_224 iv_M_closedShare 9 (by decide) rfl (by assumption) (by decide) (Nat.zero_le _) (Nat.zero_le _) (Nat.le_of_ble_eq_true rfl) d_L_law_1947 (c_M_closedShare (hQ1 := fun h => absurd hg' h) (hQ2 := fun _ h => absurd (show cntdZ (cN c) ≤ 0 by rw [cntd_eq ok hz]; omega) hc) hm1 ok sc_rng (fun hgg hif w2 hM => ?_))
    refine g_ret ?_
    obtain ⟨f2, hC, ht2, h682, h692⟩ := hCp.read hLX h681 h691 hM
    have hC2 := hC.mono
    have k2 : g_cell E w2 im1 (gad E 62) _ := g_mut 62 (by omega) hC2.2.1.2.1
    have hnz : iI (cmM m) ≠ 0 := fun h => by rw [iI_0, iI_eq (by omega) (by omega)] at h; exact hif h
    refine g_fstore (i := 7) (by decide) rfl d_L_law_1950 ?_
    refine g_aload_n (n := 2) (i := 2) rfl rfl d_L_law_1952 ?_
    refine g_callV0 rfl rfl e_M_thrown l_L_141 iv_M_thrown 9 (by decide) rfl (by assumption) (by decide) (Nat.zero_le _) (Nat.zero_le _) (Nat.le_of_ble_eq_true rfl) d_L_law_1953 (c_M_thrown hC2.2.1 ?_)
    refine g_ret ?_
    rw [ht2]
    refine g_iload (i := 6) rfl d_L_law_1956 ?_
    refine g_icmp_eq (tgt := 1963) d_L_law_1958 (by decide) (fun _ => ?_) (fun h => absurd rfl h)
    refine g_iload (i := 6) rfl d_L_law_1963 ?_
    refine g_if_ne_i (tgt := 2001) (by decide) d_L_law_1965 (by decide) (fun h => absurd h (by decide)) (fun h1965 => ?_)
    refine g_aload (i := 4) rfl d_L_law_1968 ?_
    refine g_iconst_i d_L_law_1970 ?_
    refine g_daload (j := 0) (f := gq) (g_mut 69 (by omega) h692) (iI_nI 0).symm (by decide) (by rfl) d_L_law_1971 ?_
    refine g_fload (i := 7) rfl d_L_law_1972 ?_
    refine g_f2d (nn_f2d hnz) d_L_law_1974 ?_
    refine g_dcmp d_L_law_1975 ?_
    rw [hv, allDays_eq hz (by have := ok.2.1; omega), cntd_eq ok hz, dcs (nn_f2d hnz)]
    refine g_if_eq_i (tgt := 2001) (by decide) d_L_law_1976 (by decide) (fun h1976 => ?_) (fun h => absurd h (by decide))
    refine g_goto (tgt := 2306) (by decide) d_L_law_2001 ?_
    exact g_cut (lv' := [(0, .ref (gX E).1), (1, .ref (gad E 0)), (2, .ref (gad E 62)), (3, .ref (gad E 68)), (4, .ref (gad E 69)), (5, .int (iI (I : Int)))]) ⟨rfl, rfl, rfl, rfl, rfl, rfl, trivial⟩ (hN _ _ _ _ _ _ _ _ _ hC2 (by omega) (by omega))
  · refine g_retn ?_
    have z0 := ok.1
    have hcm : 0 ≤ cmM m ∧ cmM m ≤ 20000 := by unfold cmM; (repeat' split) <;> omega
    have hg' : ¬ (0 ≤ sc E (I + 1) ∧ sc E (I + 1) < m 1) := fun h => hg (by unfold isG; rw [hz.1.2.1]; exact h)
    have hLX := hLX
    obtain ⟨hm1, u41, u51, u61, u71⟩ := hCp.mid hLX
    have k2 : g_cell E w1 im1 (gad E 62) _ := g_mut 62 (by omega) hm1.2.1
    have h68k := h681
    have h681 : w1 68 = lgE g0 := h681.trans h68
    have h691 : w1 69 = dbE gd := h691.trans hgd
    
    refine g_istore (i := 6) (by decide) rfl d_L_law_1938 ?_
    refine g_aload_n (n := 2) (i := 2) rfl rfl d_L_law_1940 ?_
    refine g_aload_n (n := 0) (i := 0) rfl rfl d_L_law_1941 ?_
    refine g_iload (i := 5) rfl d_L_law_1942 ?_
    refine g_iconst_i d_L_law_1944 ?_
    refine g_iadd_i d_L_law_1945 ?_
    refine g_sldI (k := 1) rfl (by omega) hL d_L_law_1946 ?_
    refine g_callV1 rfl rfl e_M_closedShare l_L_224 iv_M_closedShare 9 (by decide) rfl (by assumption) (by decide) (Nat.zero_le _) (Nat.zero_le _) (Nat.le_of_ble_eq_true rfl) d_L_law_1947 (c_M_closedShare (hQ2 := fun h _ => absurd h hg') (hQ3 := fun h _ => absurd h hg') hm1 ok sc_rng (fun hgg w2 hM => ?_))
    refine g_ret ?_
    obtain ⟨f2, hC, ht2, h682, h692⟩ := hCp.read hLX h681 h691 hM
    have hC2 := hC.mono
    have k2 : g_cell E w2 im1 (gad E 62) _ := g_mut 62 (by omega) hC2.2.1.2.1
    refine g_fstore (i := 7) (by decide) rfl d_L_law_1950 ?_
    refine g_aload_n (n := 2) (i := 2) rfl rfl d_L_law_1952 ?_
    refine g_callV0 rfl rfl e_M_thrown l_L_141 iv_M_thrown 9 (by decide) rfl (by assumption) (by decide) (Nat.zero_le _) (Nat.zero_le _) (Nat.le_of_ble_eq_true rfl) d_L_law_1953 (c_M_thrown hC2.2.1 ?_)
    refine g_ret ?_
    rw [ht2]
    refine g_iload (i := 6) rfl d_L_law_1956 ?_
    refine g_icmp_eq (tgt := 1963) d_L_law_1958 (by decide) (fun _ => ?_) (fun h => absurd rfl h)
    refine g_iload (i := 6) rfl d_L_law_1963 ?_
    refine g_if_ne_i (tgt := 2001) (by decide) d_L_law_1965 (by decide) (fun h1965 => ?_) (fun h => absurd h (by decide))
    refine g_goto (tgt := 2306) (by decide) d_L_law_2001 ?_
    exact g_cut (lv' := [(0, .ref (gX E).1), (1, .ref (gad E 0)), (2, .ref (gad E 62)), (3, .ref (gad E 68)), (4, .ref (gad E 69)), (5, .int (iI (I : Int)))]) ⟨rfl, rfl, rfl, rfl, rfl, rfl, trivial⟩ (hN _ _ _ _ _ _ _ _ _ hC2 (by omega) (by omega))
  · refine g_retn ?_
    have z0 := ok.1
    have hcm : 0 ≤ cmM m ∧ cmM m ≤ 20000 := by unfold cmM; (repeat' split) <;> omega
    have hg' : 0 ≤ sc E (I + 1) ∧ sc E (I + 1) < m 1 := by have h9 := hg; unfold isG at h9; rw [hz.1.2.1] at h9; exact h9
    have hLX := hLX
    obtain ⟨hm1, u41, u51, u61, u71⟩ := hCp.mid hLX
    have k2 : g_cell E w1 im1 (gad E 62) _ := g_mut 62 (by omega) hm1.2.1
    have h68k := h681
    have h681 : w1 68 = lgE g0 := h681.trans h68
    have h691 : w1 69 = dbE gd := h691.trans hgd
    
    refine g_istore (i := 6) (by decide) rfl d_L_law_1938 ?_
    refine g_aload_n (n := 2) (i := 2) rfl rfl d_L_law_1940 ?_
    refine g_aload_n (n := 0) (i := 0) rfl rfl d_L_law_1941 ?_
    refine g_iload (i := 5) rfl d_L_law_1942 ?_
    refine g_iconst_i d_L_law_1944 ?_
    refine g_iadd_i d_L_law_1945 ?_
    refine g_sldI (k := 1) rfl (by omega) hL d_L_law_1946 ?_
    refine g_callV1 rfl rfl e_M_closedShare l_L_224 iv_M_closedShare 9 (by decide) rfl (by assumption) (by decide) (Nat.zero_le _) (Nat.zero_le _) (Nat.le_of_ble_eq_true rfl) d_L_law_1947 (c_M_closedShare (hQ1 := fun h => absurd hg' h) (hQ3 := fun _ h => absurd hc (by rw [cntd_eq ok hz]; omega)) hm1 ok sc_rng (fun hgg hif w2 hM => ?_))
    refine g_ret ?_
    obtain ⟨f2, hC, ht2, h682, h692⟩ := hCp.read hLX h681 h691 hM
    have hC2 := hC.mono
    have k2 : g_cell E w2 im1 (gad E 62) _ := g_mut 62 (by omega) hC2.2.1.2.1
    refine g_fstore (i := 7) (by decide) rfl d_L_law_1950 ?_
    refine g_aload_n (n := 2) (i := 2) rfl rfl d_L_law_1952 ?_
    refine g_callV0 rfl rfl e_M_thrown l_L_141 iv_M_thrown 9 (by decide) rfl (by assumption) (by decide) (Nat.zero_le _) (Nat.zero_le _) (Nat.le_of_ble_eq_true rfl) d_L_law_1953 (c_M_thrown hC2.2.1 ?_)
    refine g_ret ?_
    rw [ht2]
    refine g_iload (i := 6) rfl d_L_law_1956 ?_
    refine g_icmp_eq (tgt := 1963) d_L_law_1958 (by decide) (fun _ => ?_) (fun h => absurd rfl h)
    refine g_iload (i := 6) rfl d_L_law_1963 ?_
    refine g_if_ne_i (tgt := 2001) (by decide) d_L_law_1965 (by decide) (fun h1965 => ?_) (fun h => absurd h (by decide))
    refine g_goto (tgt := 2306) (by decide) d_L_law_2001 ?_
    exact g_cut (lv' := [(0, .ref (gX E).1), (1, .ref (gad E 0)), (2, .ref (gad E 62)), (3, .ref (gad E 68)), (4, .ref (gad E 69)), (5, .int (iI (I : Int)))]) ⟨rfl, rfl, rfl, rfl, rfl, rfl, trivial⟩ (hN _ _ _ _ _ _ _ _ _ hC2 (by omega) (by omega))

