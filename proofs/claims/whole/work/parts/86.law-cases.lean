/-! ===== the law's cases ===== -/
theorem n2_way {m : Int → Int} {x y : Int} : (gWay m x y).1 ≠ 2 := by unfold gWay; split <;> first | (show (0 : Int) ≠ 2; decide) | (show (1 : Int) ≠ 2; decide)
theorem n2_ope {m : Int → Int} {x : Int} : (gOpe m x).1 ≠ 2 := by unfold gOpe; split <;> first | (show (0 : Int) ≠ 2; decide) | (show (1 : Int) ≠ 2; decide)
theorem n2_rfb {m : Int → Int} {x : Int} : (gRfb m x).1 ≠ 2 := by unfold gRfb; split <;> first | (show (0 : Int) ≠ 2; decide) | (show (1 : Int) ≠ 2; decide)
theorem n2_sha {m : Int → Int} {x y : Int} : (gSha m x y).1 ≠ 2 := by unfold gSha; split <;> first | (show (0 : Int) ≠ 2; decide) | (show (1 : Int) ≠ 2; decide)
theorem n2_num {x : Int} : (gNum x).1 ≠ 2 := by unfold gNum; split <;> first | (show (0 : Int) ≠ 2; decide) | (show (1 : Int) ≠ 2; decide)
theorem n2_acc {m : Int → Int} {x : Int} : (gAcc m x).1 ≠ 2 := by unfold gAcc; (repeat' split) <;> first | (show (0 : Int) ≠ 2; decide) | (show (1 : Int) ≠ 2; decide)
theorem n2_sys {m : Int → Int} {f : Nat → Int} {x : Int} : (gSys m f x).1 ≠ 2 := by unfold gSys; (repeat' split) <;> first | (show (0 : Int) ≠ 2; decide) | (show (1 : Int) ≠ 2; decide)
theorem cld_rng {m : Int → Int} {x y : Int} : 0 ≤ (gCld m x y).2 ∧ (gCld m x y).2 ≤ 1 := by
  unfold gCld
  by_cases h1 : 0 ≤ x ∧ x < m 2
  · rw [if_pos h1]
    by_cases h2 : 0 ≤ y ∧ y ≤ 30
    · rw [if_pos h2]
      show 0 ≤ (if isClB m x y = true then (1 : Int) else 0) ∧ (if isClB m x y = true then (1 : Int) else 0) ≤ 1
      split <;> omega
    · rw [if_neg h2]
      show (0 : Int) ≤ 0 ∧ (0 : Int) ≤ 1
      omega
  · rw [if_neg h1]
    show (0 : Int) ≤ 0 ∧ (0 : Int) ≤ 1
    omega
def aRea (c : CSt) (m : Int → Int) (x y : Int) : Int × Int := if (0 ≤ x ∧ x < m 3) ∧ (0 ≤ y ∧ y < m 1) then (0, reasonOf (cN c) x y) else (1, 0)
theorem A_reason {c : CSt} {m : Int → Int} {x y : Int} (hz : MZ m (cN c)) : An sIB sIA (oRea (cN c) x y) (aRea c m x y) := by
  unfold oRea aRea isC isG
  rw [hz.1.2.2.2, hz.1.2.1]
  by_cases hx : (0 ≤ x ∧ x < m 3) ∧ (0 ≤ y ∧ y < m 1)
  · rw [if_pos hx, if_pos hx]; exact an0 rfl
  · rw [if_neg hx, if_neg hx]; exact an1
theorem n2_rea {c : CSt} {m : Int → Int} {x y : Int} : (aRea c m x y).1 ≠ 2 := by unfold aRea; split <;> first | (show (0 : Int) ≠ 2; decide) | (show (1 : Int) ≠ 2; decide)

theorem op_1 {E : gE} {w : gW} {im : gIm} {Q : gQ} {c : CSt} {f : Nat → Int} {m pa sv : Int → Int} {n : Int} {I kc ks : Nat} (hL : (gX E).2.1 ≤ 3584) (hI : I + 7 ≤ (gX E).2.1) (hn6 : n < 600) (hkc : 541 ≤ kc) (hks : 3246 ≤ ks) (hCp : Cp E w im c f m pa sv n) (hN : ∀ w' im' c' f' m' pa' sv' kc' ks', Cp E w' im' c' f' m' pa' sv' (n + 1) → kc ≤ kc' + 541 → ks ≤ ks' + 3246 → G E 8 m_L_law 2306 [(0, .ref (gX E).1), (1, .ref (gad E 0)), (2, .ref (gad E 62)), (3, .ref (gad E 68)), (4, .ref (gad E 69)), (5, .int (iI (I : Int)))] [] w' im' kc' ks' Q) : G E 8 m_L_law 213 [(0, .ref (gX E).1), (1, .ref (gad E 0)), (2, .ref (gad E 62)), (3, .ref (gad E 68)), (4, .ref (gad E 69)), (5, .int (iI (I : Int)))] [] w im kc ks Q := by
  obtain ⟨hx, hm, u4, u5, u6, u7, ⟨g0, h68⟩, ⟨gd, hgd⟩, hP⟩ := id hCp
  have hR := hP.1
  obtain ⟨ok, hz, h4⟩ := id hR
  have oz := hx.2.1.1.okz
  have hgn : gN E = 70 := hm.1
  have k0 : g_cell E w im (gad E 0) _ := g_mut 0 (by omega) hx.1.2.1
  have hr2c : 0 ≤ f 2 ∧ f 2 ≤ 8 := by rw [hP.2.1.1]; exact hx.2.2.2.1
  obtain ⟨ta, ra, ma, hga⟩ : ∃ t r m', (t, r, m') = gAddG m (sc E (I + 1)) (sc E (I + 2)) := ⟨_, _, _, rfl⟩
  have hB := B_addGate hR (x := (sc E (I + 1))) (y := (sc E (I + 2)))
  rw [← hga] at hB
  have hA : An sIA sIS (eAddG c (sc E (I + 1)) (sc E (I + 2))).1 (ta, ra) := hB.1
  have hta := An_rng hA
  refine g_aload_n (n := 1) (i := 1) rfl rfl d_L_law_213 ?_
  refine g_aload_n (n := 0) (i := 0) rfl rfl d_L_law_214 ?_
  refine g_iload (i := 5) rfl d_L_law_215 ?_
  refine g_iconst_i d_L_law_217 ?_
  refine g_iadd_i d_L_law_218 ?_
  refine g_sldI (k := 1) rfl (by omega) hL d_L_law_219 ?_
  refine g_aload_n (n := 0) (i := 0) rfl rfl d_L_law_220 ?_
  refine g_iload (i := 5) rfl d_L_law_221 ?_
  refine g_iconst_i d_L_law_223 ?_
  refine g_iadd_i d_L_law_224 ?_
  refine g_sldI (k := 2) rfl (by omega) hL d_L_law_225 ?_
  refine g_aload_n (n := 3) (i := 3) rfl rfl d_L_law_226 ?_
  refine g_callW4 rfl rfl e_L_addGate l_L_135 st_L_addGate (by decide) (by omega) (by omega) (Nat.le_of_ble_eq_true rfl) d_L_law_227 (c_L_addGate hx sc_rng sc_rng hA h68 (fun w1 im1 g1 hLX h681 h69k hval => ?_))
  refine g_retn ?_
  obtain ⟨hm1, u41, u51, u61, u71⟩ := hCp.mid hLX
  have k2 : g_cell E w1 im1 (gad E 62) _ := g_mut 62 (by omega) hm1.2.1
  have h691 : w1 69 = dbE gd := (h69k 69 rfl).trans hgd
  refine g_istore (i := 6) (by decide) rfl d_L_law_230 ?_
  refine g_aload_n (n := 2) (i := 2) rfl rfl d_L_law_232 ?_
  refine g_aload_n (n := 0) (i := 0) rfl rfl d_L_law_233 ?_
  refine g_iload (i := 5) rfl d_L_law_234 ?_
  refine g_iconst_i d_L_law_236 ?_
  refine g_iadd_i d_L_law_237 ?_
  refine g_sldI (k := 1) rfl (by omega) hL d_L_law_238 ?_
  refine g_aload_n (n := 0) (i := 0) rfl rfl d_L_law_239 ?_
  refine g_iload (i := 5) rfl d_L_law_240 ?_
  refine g_iconst_i d_L_law_242 ?_
  refine g_iadd_i d_L_law_243 ?_
  refine g_sldI (k := 2) rfl (by omega) hL d_L_law_244 ?_
  refine g_callV2 rfl rfl e_M_addGate l_L_140 iv_M_addGate 9 (by decide) rfl (by assumption) (by decide) (Nat.zero_le _) (Nat.zero_le _) (Nat.le_of_ble_eq_true rfl) d_L_law_245 (c_M_addGate hm1 ok u41 u61 hr2c sc_rng sc_rng (fun t9 r9 m9 w2 he9 hM => ?_))
  refine g_ret ?_
  have e1 : t9 = ta := congrArg Prod.fst (he9.trans hga.symm)
  have e2 : r9 = ra := congrArg (fun x : Int × Int × (Int → Int) => x.2.1) (he9.trans hga.symm)
  obtain ⟨f2, m2, p2, hC2, ht2, h682, h692⟩ := hCp.out hB (he9.trans hga.symm) hLX h681 h691 hM
  have ht2 : f2 6 = ta := ht2.trans e1
  have hr2 : ta = 0 → r9 = ra := fun _ => e2
  have k2 : g_cell E w2 im1 (gad E 62) _ := g_mut 62 (by omega) hC2.2.1.2.1
  refine g_istore (i := 7) (by decide) rfl d_L_law_248 ?_
  refine g_aload_n (n := 2) (i := 2) rfl rfl d_L_law_250 ?_
  refine g_callV0 rfl rfl e_M_thrown l_L_141 iv_M_thrown 9 (by decide) rfl (by assumption) (by decide) (Nat.zero_le _) (Nat.zero_le _) (Nat.le_of_ble_eq_true rfl) d_L_law_251 (c_M_thrown hC2.2.1 ?_)
  refine g_ret ?_
  rw [ht2]
  refine g_iload (i := 6) rfl d_L_law_254 ?_
  refine g_icmp_eq (tgt := 261) d_L_law_256 (by decide) (fun _ => ?_) (fun h => absurd rfl h)
  refine g_iload (i := 6) rfl d_L_law_261 ?_
  refine g_if_ne_i (tgt := 278) (by omega) d_L_law_263 (by decide) (fun h263 => ?_) (fun h263 => ?_)
  · refine g_goto (tgt := 2306) (by decide) d_L_law_278 ?_
    exact g_cut (lv' := [(0, .ref (gX E).1), (1, .ref (gad E 0)), (2, .ref (gad E 62)), (3, .ref (gad E 68)), (4, .ref (gad E 69)), (5, .int (iI (I : Int)))]) ⟨rfl, rfl, rfl, rfl, rfl, rfl, trivial⟩ (hN _ _ _ _ _ _ _ _ _ hC2 (by omega) (by omega))
  · refine g_aload_n (n := 3) (i := 3) rfl rfl d_L_law_266 ?_
    refine g_iconst_i d_L_law_267 ?_
    have h0 : ta = 0 := by omega
    refine g_laload (j := 0) (f := g1) (g_mut 68 (by omega) h682) (iI_nI 0).symm (by decide) (by rfl) d_L_law_268 ?_
    refine g_iload (i := 7) rfl d_L_law_269 ?_
    refine g_i2l d_L_law_271 ?_
    refine g_lcmp d_L_law_272 ?_
    rw [hval h0, ← hr2 h0, lgc]
    refine g_if_eq_i (tgt := 278) (by decide) d_L_law_273 (by decide) (fun h273 => ?_) (fun h => absurd h (by decide))
    refine g_goto (tgt := 2306) (by decide) d_L_law_278 ?_
    exact g_cut (lv' := [(0, .ref (gX E).1), (1, .ref (gad E 0)), (2, .ref (gad E 62)), (3, .ref (gad E 68)), (4, .ref (gad E 69)), (5, .int (iI (I : Int)))]) ⟨rfl, rfl, rfl, rfl, rfl, rfl, trivial⟩ (hN _ _ _ _ _ _ _ _ _ hC2 (by omega) (by omega))

theorem op_3 {E : gE} {w : gW} {im : gIm} {Q : gQ} {c : CSt} {f : Nat → Int} {m pa sv : Int → Int} {n : Int} {I kc ks : Nat} (hL : (gX E).2.1 ≤ 3584) (hI : I + 7 ≤ (gX E).2.1) (hn6 : n < 600) (hkc : 541 ≤ kc) (hks : 3246 ≤ ks) (hCp : Cp E w im c f m pa sv n) (hN : ∀ w' im' c' f' m' pa' sv' kc' ks', Cp E w' im' c' f' m' pa' sv' (n + 1) → kc ≤ kc' + 541 → ks ≤ ks' + 3246 → G E 8 m_L_law 2306 [(0, .ref (gX E).1), (1, .ref (gad E 0)), (2, .ref (gad E 62)), (3, .ref (gad E 68)), (4, .ref (gad E 69)), (5, .int (iI (I : Int)))] [] w' im' kc' ks' Q) : G E 8 m_L_law 399 [(0, .ref (gX E).1), (1, .ref (gad E 0)), (2, .ref (gad E 62)), (3, .ref (gad E 68)), (4, .ref (gad E 69)), (5, .int (iI (I : Int)))] [] w im kc ks Q := by
  obtain ⟨hx, hm, u4, u5, u6, u7, ⟨g0, h68⟩, ⟨gd, hgd⟩, hP⟩ := id hCp
  have hR := hP.1
  obtain ⟨ok, hz, h4⟩ := id hR
  have oz := hx.2.1.1.okz
  have hgn : gN E = 70 := hm.1
  have k0 : g_cell E w im (gad E 0) _ := g_mut 0 (by omega) hx.1.2.1
  have hr2c : 0 ≤ f 2 ∧ f 2 ≤ 8 := by rw [hP.2.1.1]; exact hx.2.2.2.1
  obtain ⟨ta, ra, hga⟩ : ∃ t r, (t, r) = gGate m (sc E (I + 1)) (sc E (I + 2)) := ⟨_, _, rfl⟩
  have hA := A_gate ok hz (x := (sc E (I + 1))) (y := (sc E (I + 2)))
  rw [← hga] at hA
  have hta := An_rng hA
  refine g_aload_n (n := 1) (i := 1) rfl rfl d_L_law_399 ?_
  refine g_aload_n (n := 0) (i := 0) rfl rfl d_L_law_400 ?_
  refine g_iload (i := 5) rfl d_L_law_401 ?_
  refine g_iconst_i d_L_law_403 ?_
  refine g_iadd_i d_L_law_404 ?_
  refine g_sldI (k := 1) rfl (by omega) hL d_L_law_405 ?_
  refine g_aload_n (n := 0) (i := 0) rfl rfl d_L_law_406 ?_
  refine g_iload (i := 5) rfl d_L_law_407 ?_
  refine g_iconst_i d_L_law_409 ?_
  refine g_iadd_i d_L_law_410 ?_
  refine g_sldI (k := 2) rfl (by omega) hL d_L_law_411 ?_
  refine g_aload_n (n := 3) (i := 3) rfl rfl d_L_law_412 ?_
  refine g_callW4 rfl rfl e_L_gate l_L_148 st_L_gate (by decide) (by omega) (by omega) (Nat.le_of_ble_eq_true rfl) d_L_law_413 (c_L_gate hx sc_rng sc_rng hA h68 (fun w1 im1 g1 hLX h681 h69k hval => ?_))
  refine g_retn ?_
  obtain ⟨hm1, u41, u51, u61, u71⟩ := hCp.mid hLX
  have k2 : g_cell E w1 im1 (gad E 62) _ := g_mut 62 (by omega) hm1.2.1
  have h691 : w1 69 = dbE gd := (h69k 69 rfl).trans hgd
  refine g_istore (i := 6) (by decide) rfl d_L_law_416 ?_
  refine g_aload_n (n := 2) (i := 2) rfl rfl d_L_law_418 ?_
  refine g_aload_n (n := 0) (i := 0) rfl rfl d_L_law_419 ?_
  refine g_iload (i := 5) rfl d_L_law_420 ?_
  refine g_iconst_i d_L_law_422 ?_
  refine g_iadd_i d_L_law_423 ?_
  refine g_sldI (k := 1) rfl (by omega) hL d_L_law_424 ?_
  refine g_aload_n (n := 0) (i := 0) rfl rfl d_L_law_425 ?_
  refine g_iload (i := 5) rfl d_L_law_426 ?_
  refine g_iconst_i d_L_law_428 ?_
  refine g_iadd_i d_L_law_429 ?_
  refine g_sldI (k := 2) rfl (by omega) hL d_L_law_430 ?_
  refine g_callV2 rfl rfl e_M_gate l_L_150 iv_M_gate 9 (by decide) rfl (by assumption) (by decide) (Nat.zero_le _) (Nat.zero_le _) (Nat.le_of_ble_eq_true rfl) d_L_law_431 (c_M_gate hm1 ok sc_rng sc_rng (fun t9 r9 w2 he9 hM => ?_))
  refine g_ret ?_
  have e1 : t9 = ta := congrArg Prod.fst (he9.trans hga.symm)
  have e2 : r9 = ra := congrArg Prod.snd (he9.trans hga.symm)
  obtain ⟨f2, hC, ht2, h682, h692⟩ := hCp.read hLX h681 h691 hM
  have hC2 := hC.mono
  have ht2 : f2 6 = ta := ht2.trans e1
  have hr2 : ta = 0 → r9 = ra := fun _ => e2
  have k2 : g_cell E w2 im1 (gad E 62) _ := g_mut 62 (by omega) hC2.2.1.2.1
  refine g_istore (i := 7) (by decide) rfl d_L_law_434 ?_
  refine g_aload_n (n := 2) (i := 2) rfl rfl d_L_law_436 ?_
  refine g_callV0 rfl rfl e_M_thrown l_L_141 iv_M_thrown 9 (by decide) rfl (by assumption) (by decide) (Nat.zero_le _) (Nat.zero_le _) (Nat.le_of_ble_eq_true rfl) d_L_law_437 (c_M_thrown hC2.2.1 ?_)
  refine g_ret ?_
  rw [ht2]
  refine g_iload (i := 6) rfl d_L_law_440 ?_
  refine g_icmp_eq (tgt := 447) d_L_law_442 (by decide) (fun _ => ?_) (fun h => absurd rfl h)
  refine g_iload (i := 6) rfl d_L_law_447 ?_
  refine g_if_ne_i (tgt := 464) (by omega) d_L_law_449 (by decide) (fun h449 => ?_) (fun h449 => ?_)
  · refine g_goto (tgt := 2306) (by decide) d_L_law_464 ?_
    exact g_cut (lv' := [(0, .ref (gX E).1), (1, .ref (gad E 0)), (2, .ref (gad E 62)), (3, .ref (gad E 68)), (4, .ref (gad E 69)), (5, .int (iI (I : Int)))]) ⟨rfl, rfl, rfl, rfl, rfl, rfl, trivial⟩ (hN _ _ _ _ _ _ _ _ _ hC2 (by omega) (by omega))
  · refine g_aload_n (n := 3) (i := 3) rfl rfl d_L_law_452 ?_
    refine g_iconst_i d_L_law_453 ?_
    have h0 : ta = 0 := by omega
    refine g_laload (j := 0) (f := g1) (g_mut 68 (by omega) h682) (iI_nI 0).symm (by decide) (by rfl) d_L_law_454 ?_
    refine g_iload (i := 7) rfl d_L_law_455 ?_
    refine g_i2l d_L_law_457 ?_
    refine g_lcmp d_L_law_458 ?_
    rw [hval h0, ← hr2 h0, lgc]
    refine g_if_eq_i (tgt := 464) (by decide) d_L_law_459 (by decide) (fun h459 => ?_) (fun h => absurd h (by decide))
    refine g_goto (tgt := 2306) (by decide) d_L_law_464 ?_
    exact g_cut (lv' := [(0, .ref (gX E).1), (1, .ref (gad E 0)), (2, .ref (gad E 62)), (3, .ref (gad E 68)), (4, .ref (gad E 69)), (5, .int (iI (I : Int)))]) ⟨rfl, rfl, rfl, rfl, rfl, rfl, trivial⟩ (hN _ _ _ _ _ _ _ _ _ hC2 (by omega) (by omega))

theorem op_4 {E : gE} {w : gW} {im : gIm} {Q : gQ} {c : CSt} {f : Nat → Int} {m pa sv : Int → Int} {n : Int} {I kc ks : Nat} (hL : (gX E).2.1 ≤ 3584) (hI : I + 7 ≤ (gX E).2.1) (hn6 : n < 600) (hkc : 541 ≤ kc) (hks : 3246 ≤ ks) (hCp : Cp E w im c f m pa sv n) (hN : ∀ w' im' c' f' m' pa' sv' kc' ks', Cp E w' im' c' f' m' pa' sv' (n + 1) → kc ≤ kc' + 541 → ks ≤ ks' + 3246 → G E 8 m_L_law 2306 [(0, .ref (gX E).1), (1, .ref (gad E 0)), (2, .ref (gad E 62)), (3, .ref (gad E 68)), (4, .ref (gad E 69)), (5, .int (iI (I : Int)))] [] w' im' kc' ks' Q) : G E 8 m_L_law 467 [(0, .ref (gX E).1), (1, .ref (gad E 0)), (2, .ref (gad E 62)), (3, .ref (gad E 68)), (4, .ref (gad E 69)), (5, .int (iI (I : Int)))] [] w im kc ks Q := by
  obtain ⟨hx, hm, u4, u5, u6, u7, ⟨g0, h68⟩, ⟨gd, hgd⟩, hP⟩ := id hCp
  have hR := hP.1
  obtain ⟨ok, hz, h4⟩ := id hR
  have oz := hx.2.1.1.okz
  have hgn : gN E = 70 := hm.1
  have k0 : g_cell E w im (gad E 0) _ := g_mut 0 (by omega) hx.1.2.1
  have hr2c : 0 ≤ f 2 ∧ f 2 ≤ 8 := by rw [hP.2.1.1]; exact hx.2.2.2.1
  obtain ⟨ta, ra, hga⟩ : ∃ t r, (t, r) = gProd m (sc E (I + 1)) (sc E (I + 2)) := ⟨_, _, rfl⟩
  have hA := A_product ok hz (x := (sc E (I + 1))) (y := (sc E (I + 2)))
  rw [← hga] at hA
  have hta := An_rng hA
  refine g_aload_n (n := 1) (i := 1) rfl rfl d_L_law_467 ?_
  refine g_aload_n (n := 0) (i := 0) rfl rfl d_L_law_468 ?_
  refine g_iload (i := 5) rfl d_L_law_469 ?_
  refine g_iconst_i d_L_law_471 ?_
  refine g_iadd_i d_L_law_472 ?_
  refine g_sldI (k := 1) rfl (by omega) hL d_L_law_473 ?_
  refine g_aload_n (n := 0) (i := 0) rfl rfl d_L_law_474 ?_
  refine g_iload (i := 5) rfl d_L_law_475 ?_
  refine g_iconst_i d_L_law_477 ?_
  refine g_iadd_i d_L_law_478 ?_
  refine g_sldI (k := 2) rfl (by omega) hL d_L_law_479 ?_
  refine g_aload_n (n := 3) (i := 3) rfl rfl d_L_law_480 ?_
  refine g_callW4 rfl rfl e_L_product l_L_151 st_L_product (by decide) (by omega) (by omega) (Nat.le_of_ble_eq_true rfl) d_L_law_481 (c_L_product hx sc_rng sc_rng hA h68 (fun w1 im1 g1 hLX h681 h69k hval => ?_))
  refine g_retn ?_
  obtain ⟨hm1, u41, u51, u61, u71⟩ := hCp.mid hLX
  have k2 : g_cell E w1 im1 (gad E 62) _ := g_mut 62 (by omega) hm1.2.1
  have h691 : w1 69 = dbE gd := (h69k 69 rfl).trans hgd
  refine g_istore (i := 6) (by decide) rfl d_L_law_484 ?_
  refine g_aload_n (n := 2) (i := 2) rfl rfl d_L_law_486 ?_
  refine g_aload_n (n := 0) (i := 0) rfl rfl d_L_law_487 ?_
  refine g_iload (i := 5) rfl d_L_law_488 ?_
  refine g_iconst_i d_L_law_490 ?_
  refine g_iadd_i d_L_law_491 ?_
  refine g_sldI (k := 1) rfl (by omega) hL d_L_law_492 ?_
  refine g_aload_n (n := 0) (i := 0) rfl rfl d_L_law_493 ?_
  refine g_iload (i := 5) rfl d_L_law_494 ?_
  refine g_iconst_i d_L_law_496 ?_
  refine g_iadd_i d_L_law_497 ?_
  refine g_sldI (k := 2) rfl (by omega) hL d_L_law_498 ?_
  refine g_callV2 rfl rfl e_M_product l_L_153 iv_M_product 9 (by decide) rfl (by assumption) (by decide) (Nat.zero_le _) (Nat.zero_le _) (Nat.le_of_ble_eq_true rfl) d_L_law_499 (c_M_product hm1 ok sc_rng sc_rng (fun t9 r9 w2 he9 hM => ?_))
  refine g_ret ?_
  have e1 : t9 = ta := congrArg Prod.fst (he9.trans hga.symm)
  have e2 : r9 = ra := congrArg Prod.snd (he9.trans hga.symm)
  obtain ⟨f2, hC, ht2, h682, h692⟩ := hCp.read hLX h681 h691 hM
  have hC2 := hC.mono
  have ht2 : f2 6 = ta := ht2.trans e1
  have hr2 : ta = 0 → r9 = ra := fun _ => e2
  have k2 : g_cell E w2 im1 (gad E 62) _ := g_mut 62 (by omega) hC2.2.1.2.1
  refine g_istore (i := 7) (by decide) rfl d_L_law_502 ?_
  refine g_aload_n (n := 2) (i := 2) rfl rfl d_L_law_504 ?_
  refine g_callV0 rfl rfl e_M_thrown l_L_141 iv_M_thrown 9 (by decide) rfl (by assumption) (by decide) (Nat.zero_le _) (Nat.zero_le _) (Nat.le_of_ble_eq_true rfl) d_L_law_505 (c_M_thrown hC2.2.1 ?_)
  refine g_ret ?_
  rw [ht2]
  refine g_iload (i := 6) rfl d_L_law_508 ?_
  refine g_icmp_eq (tgt := 515) d_L_law_510 (by decide) (fun _ => ?_) (fun h => absurd rfl h)
  refine g_iload (i := 6) rfl d_L_law_515 ?_
  refine g_if_ne_i (tgt := 532) (by omega) d_L_law_517 (by decide) (fun h517 => ?_) (fun h517 => ?_)
  · refine g_goto (tgt := 2306) (by decide) d_L_law_532 ?_
    exact g_cut (lv' := [(0, .ref (gX E).1), (1, .ref (gad E 0)), (2, .ref (gad E 62)), (3, .ref (gad E 68)), (4, .ref (gad E 69)), (5, .int (iI (I : Int)))]) ⟨rfl, rfl, rfl, rfl, rfl, rfl, trivial⟩ (hN _ _ _ _ _ _ _ _ _ hC2 (by omega) (by omega))
  · refine g_aload_n (n := 3) (i := 3) rfl rfl d_L_law_520 ?_
    refine g_iconst_i d_L_law_521 ?_
    have h0 : ta = 0 := by omega
    refine g_laload (j := 0) (f := g1) (g_mut 68 (by omega) h682) (iI_nI 0).symm (by decide) (by rfl) d_L_law_522 ?_
    refine g_iload (i := 7) rfl d_L_law_523 ?_
    refine g_i2l d_L_law_525 ?_
    refine g_lcmp d_L_law_526 ?_
    rw [hval h0, ← hr2 h0, lgc]
    refine g_if_eq_i (tgt := 532) (by decide) d_L_law_527 (by decide) (fun h527 => ?_) (fun h => absurd h (by decide))
    refine g_goto (tgt := 2306) (by decide) d_L_law_532 ?_
    exact g_cut (lv' := [(0, .ref (gX E).1), (1, .ref (gad E 0)), (2, .ref (gad E 62)), (3, .ref (gad E 68)), (4, .ref (gad E 69)), (5, .int (iI (I : Int)))]) ⟨rfl, rfl, rfl, rfl, rfl, rfl, trivial⟩ (hN _ _ _ _ _ _ _ _ _ hC2 (by omega) (by omega))

theorem op_5 {E : gE} {w : gW} {im : gIm} {Q : gQ} {c : CSt} {f : Nat → Int} {m pa sv : Int → Int} {n : Int} {I kc ks : Nat} (hL : (gX E).2.1 ≤ 3584) (hI : I + 7 ≤ (gX E).2.1) (hn6 : n < 600) (hkc : 541 ≤ kc) (hks : 3246 ≤ ks) (hCp : Cp E w im c f m pa sv n) (hN : ∀ w' im' c' f' m' pa' sv' kc' ks', Cp E w' im' c' f' m' pa' sv' (n + 1) → kc ≤ kc' + 541 → ks ≤ ks' + 3246 → G E 8 m_L_law 2306 [(0, .ref (gX E).1), (1, .ref (gad E 0)), (2, .ref (gad E 62)), (3, .ref (gad E 68)), (4, .ref (gad E 69)), (5, .int (iI (I : Int)))] [] w' im' kc' ks' Q) : G E 8 m_L_law 535 [(0, .ref (gX E).1), (1, .ref (gad E 0)), (2, .ref (gad E 62)), (3, .ref (gad E 68)), (4, .ref (gad E 69)), (5, .int (iI (I : Int)))] [] w im kc ks Q := by
  obtain ⟨hx, hm, u4, u5, u6, u7, ⟨g0, h68⟩, ⟨gd, hgd⟩, hP⟩ := id hCp
  have hR := hP.1
  obtain ⟨ok, hz, h4⟩ := id hR
  have oz := hx.2.1.1.okz
  have hgn : gN E = 70 := hm.1
  have k0 : g_cell E w im (gad E 0) _ := g_mut 0 (by omega) hx.1.2.1
  have hr2c : 0 ≤ f 2 ∧ f 2 ≤ 8 := by rw [hP.2.1.1]; exact hx.2.2.2.1
  obtain ⟨ta, ra, hga⟩ : ∃ t r, (t, r) = gWay m (sc E (I + 1)) (sc E (I + 2)) := ⟨_, _, rfl⟩
  have hA := A_way hz (x := (sc E (I + 1))) (y := (sc E (I + 2)))
  rw [← hga] at hA
  have hta := An_rng hA
  have ha2 : ta ≠ 2 := by
    have h9 : ta = (gWay m (sc E (I + 1)) (sc E (I + 2))).1 := congrArg Prod.fst hga
    rw [h9]; exact n2_way
  refine g_aload_n (n := 1) (i := 1) rfl rfl d_L_law_535 ?_
  refine g_aload_n (n := 0) (i := 0) rfl rfl d_L_law_536 ?_
  refine g_iload (i := 5) rfl d_L_law_537 ?_
  refine g_iconst_i d_L_law_539 ?_
  refine g_iadd_i d_L_law_540 ?_
  refine g_sldI (k := 1) rfl (by omega) hL d_L_law_541 ?_
  refine g_aload_n (n := 0) (i := 0) rfl rfl d_L_law_542 ?_
  refine g_iload (i := 5) rfl d_L_law_543 ?_
  refine g_iconst_i d_L_law_545 ?_
  refine g_iadd_i d_L_law_546 ?_
  refine g_sldI (k := 2) rfl (by omega) hL d_L_law_547 ?_
  refine g_aload_n (n := 3) (i := 3) rfl rfl d_L_law_548 ?_
  refine g_callW4 rfl rfl e_L_way l_L_154 st_L_way (by decide) (by omega) (by omega) (Nat.le_of_ble_eq_true rfl) d_L_law_549 (c_L_way hx sc_rng sc_rng hA ha2 h68 (fun w1 im1 g1 hLX h681 h69k hval => ?_))
  refine g_retn ?_
  obtain ⟨hm1, u41, u51, u61, u71⟩ := hCp.mid hLX
  have k2 : g_cell E w1 im1 (gad E 62) _ := g_mut 62 (by omega) hm1.2.1
  have h691 : w1 69 = dbE gd := (h69k 69 rfl).trans hgd
  refine g_istore (i := 6) (by decide) rfl d_L_law_552 ?_
  refine g_aload_n (n := 2) (i := 2) rfl rfl d_L_law_554 ?_
  refine g_aload_n (n := 0) (i := 0) rfl rfl d_L_law_555 ?_
  refine g_iload (i := 5) rfl d_L_law_556 ?_
  refine g_iconst_i d_L_law_558 ?_
  refine g_iadd_i d_L_law_559 ?_
  refine g_sldI (k := 1) rfl (by omega) hL d_L_law_560 ?_
  refine g_aload_n (n := 0) (i := 0) rfl rfl d_L_law_561 ?_
  refine g_iload (i := 5) rfl d_L_law_562 ?_
  refine g_iconst_i d_L_law_564 ?_
  refine g_iadd_i d_L_law_565 ?_
  refine g_sldI (k := 2) rfl (by omega) hL d_L_law_566 ?_
  refine g_callV2 rfl rfl e_M_way l_L_156 iv_M_way 9 (by decide) rfl (by assumption) (by decide) (Nat.zero_le _) (Nat.zero_le _) (Nat.le_of_ble_eq_true rfl) d_L_law_567 (c_M_way hm1 ok sc_rng sc_rng (fun t9 r9 w2 he9 hM => ?_))
  refine g_ret ?_
  have e1 : t9 = ta := congrArg Prod.fst (he9.trans hga.symm)
  have e2 : r9 = ra := congrArg Prod.snd (he9.trans hga.symm)
  obtain ⟨f2, hC, ht2, h682, h692⟩ := hCp.read hLX h681 h691 hM
  have hC2 := hC.mono
  have ht2 : f2 6 = ta := ht2.trans e1
  have hr2 : ta = 0 → r9 = ra := fun _ => e2
  have k2 : g_cell E w2 im1 (gad E 62) _ := g_mut 62 (by omega) hC2.2.1.2.1
  refine g_istore (i := 7) (by decide) rfl d_L_law_570 ?_
  refine g_aload_n (n := 2) (i := 2) rfl rfl d_L_law_572 ?_
  refine g_callV0 rfl rfl e_M_thrown l_L_141 iv_M_thrown 9 (by decide) rfl (by assumption) (by decide) (Nat.zero_le _) (Nat.zero_le _) (Nat.le_of_ble_eq_true rfl) d_L_law_573 (c_M_thrown hC2.2.1 ?_)
  refine g_ret ?_
  rw [ht2]
  refine g_iload (i := 6) rfl d_L_law_576 ?_
  refine g_icmp_eq (tgt := 583) d_L_law_578 (by decide) (fun _ => ?_) (fun h => absurd rfl h)
  refine g_iload (i := 6) rfl d_L_law_583 ?_
  refine g_if_ne_i (tgt := 600) (by omega) d_L_law_585 (by decide) (fun h585 => ?_) (fun h585 => ?_)
  · refine g_goto (tgt := 2306) (by decide) d_L_law_600 ?_
    exact g_cut (lv' := [(0, .ref (gX E).1), (1, .ref (gad E 0)), (2, .ref (gad E 62)), (3, .ref (gad E 68)), (4, .ref (gad E 69)), (5, .int (iI (I : Int)))]) ⟨rfl, rfl, rfl, rfl, rfl, rfl, trivial⟩ (hN _ _ _ _ _ _ _ _ _ hC2 (by omega) (by omega))
  · refine g_aload_n (n := 3) (i := 3) rfl rfl d_L_law_588 ?_
    refine g_iconst_i d_L_law_589 ?_
    have h0 : ta = 0 := by omega
    refine g_laload (j := 0) (f := g1) (g_mut 68 (by omega) h682) (iI_nI 0).symm (by decide) (by rfl) d_L_law_590 ?_
    refine g_iload (i := 7) rfl d_L_law_591 ?_
    refine g_i2l d_L_law_593 ?_
    refine g_lcmp d_L_law_594 ?_
    rw [hval h0, ← hr2 h0, lgc]
    refine g_if_eq_i (tgt := 600) (by decide) d_L_law_595 (by decide) (fun h595 => ?_) (fun h => absurd h (by decide))
    refine g_goto (tgt := 2306) (by decide) d_L_law_600 ?_
    exact g_cut (lv' := [(0, .ref (gX E).1), (1, .ref (gad E 0)), (2, .ref (gad E 62)), (3, .ref (gad E 68)), (4, .ref (gad E 69)), (5, .int (iI (I : Int)))]) ⟨rfl, rfl, rfl, rfl, rfl, rfl, trivial⟩ (hN _ _ _ _ _ _ _ _ _ hC2 (by omega) (by omega))

theorem op_6 {E : gE} {w : gW} {im : gIm} {Q : gQ} {c : CSt} {f : Nat → Int} {m pa sv : Int → Int} {n : Int} {I kc ks : Nat} (hL : (gX E).2.1 ≤ 3584) (hI : I + 7 ≤ (gX E).2.1) (hn6 : n < 600) (hkc : 541 ≤ kc) (hks : 3246 ≤ ks) (hCp : Cp E w im c f m pa sv n) (hN : ∀ w' im' c' f' m' pa' sv' kc' ks', Cp E w' im' c' f' m' pa' sv' (n + 1) → kc ≤ kc' + 541 → ks ≤ ks' + 3246 → G E 8 m_L_law 2306 [(0, .ref (gX E).1), (1, .ref (gad E 0)), (2, .ref (gad E 62)), (3, .ref (gad E 68)), (4, .ref (gad E 69)), (5, .int (iI (I : Int)))] [] w' im' kc' ks' Q) : G E 8 m_L_law 603 [(0, .ref (gX E).1), (1, .ref (gad E 0)), (2, .ref (gad E 62)), (3, .ref (gad E 68)), (4, .ref (gad E 69)), (5, .int (iI (I : Int)))] [] w im kc ks Q := by
  obtain ⟨hx, hm, u4, u5, u6, u7, ⟨g0, h68⟩, ⟨gd, hgd⟩, hP⟩ := id hCp
  have hR := hP.1
  obtain ⟨ok, hz, h4⟩ := id hR
  have oz := hx.2.1.1.okz
  have hgn : gN E = 70 := hm.1
  have k0 : g_cell E w im (gad E 0) _ := g_mut 0 (by omega) hx.1.2.1
  have hr2c : 0 ≤ f 2 ∧ f 2 ≤ 8 := by rw [hP.2.1.1]; exact hx.2.2.2.1
  obtain ⟨ta, ra, ma, hga⟩ : ∃ t r m', (t, r, m') = gAdv m (sc E (I + 1)) := ⟨_, _, _, rfl⟩
  have hB := B_advance oz hR (x := (sc E (I + 1)))
  rw [← hga] at hB
  have hA : An sIA sIS (eAdv c (sc E (I + 1))).1 (ta, ra) := hB.1
  have hta := An_rng hA
  refine g_aload_n (n := 1) (i := 1) rfl rfl d_L_law_603 ?_
  refine g_aload_n (n := 0) (i := 0) rfl rfl d_L_law_604 ?_
  refine g_iload (i := 5) rfl d_L_law_605 ?_
  refine g_iconst_i d_L_law_607 ?_
  refine g_iadd_i d_L_law_608 ?_
  refine g_sldI (k := 1) rfl (by omega) hL d_L_law_609 ?_
  refine g_aload_n (n := 3) (i := 3) rfl rfl d_L_law_610 ?_
  refine g_callW3 rfl rfl e_L_advance l_L_157 st_L_advance (by decide) (by omega) (by omega) (Nat.le_of_ble_eq_true rfl) d_L_law_611 (c_L_advance hx sc_rng hA h68 (fun w1 im1 g1 hLX h681 h69k hval => ?_))
  refine g_retn ?_
  obtain ⟨hm1, u41, u51, u61, u71⟩ := hCp.mid hLX
  have k2 : g_cell E w1 im1 (gad E 62) _ := g_mut 62 (by omega) hm1.2.1
  have h691 : w1 69 = dbE gd := (h69k 69 rfl).trans hgd
  refine g_istore (i := 6) (by decide) rfl d_L_law_614 ?_
  refine g_aload_n (n := 2) (i := 2) rfl rfl d_L_law_616 ?_
  refine g_aload_n (n := 0) (i := 0) rfl rfl d_L_law_617 ?_
  refine g_iload (i := 5) rfl d_L_law_618 ?_
  refine g_iconst_i d_L_law_620 ?_
  refine g_iadd_i d_L_law_621 ?_
  refine g_sldI (k := 1) rfl (by omega) hL d_L_law_622 ?_
  refine g_callV1 rfl rfl e_M_advance l_L_160 iv_M_advance 9 (by decide) rfl (by assumption) (by decide) (Nat.zero_le _) (Nat.zero_le _) (Nat.le_of_ble_eq_true rfl) d_L_law_623 (c_M_advance hm1 ok u41 u61 hr2c sc_rng (fun t9 r9 m9 w2 he9 hM => ?_))
  refine g_ret ?_
  have e1 : t9 = ta := congrArg Prod.fst (he9.trans hga.symm)
  have e2 : r9 = ra := congrArg (fun x : Int × Int × (Int → Int) => x.2.1) (he9.trans hga.symm)
  obtain ⟨f2, m2, p2, hC2, ht2, h682, h692⟩ := hCp.out hB (he9.trans hga.symm) hLX h681 h691 hM
  have ht2 : f2 6 = ta := ht2.trans e1
  have hr2 : ta = 0 → r9 = ra := fun _ => e2
  have k2 : g_cell E w2 im1 (gad E 62) _ := g_mut 62 (by omega) hC2.2.1.2.1
  refine g_istore (i := 7) (by decide) rfl d_L_law_626 ?_
  refine g_aload_n (n := 2) (i := 2) rfl rfl d_L_law_628 ?_
  refine g_callV0 rfl rfl e_M_thrown l_L_141 iv_M_thrown 9 (by decide) rfl (by assumption) (by decide) (Nat.zero_le _) (Nat.zero_le _) (Nat.le_of_ble_eq_true rfl) d_L_law_629 (c_M_thrown hC2.2.1 ?_)
  refine g_ret ?_
  rw [ht2]
  refine g_iload (i := 6) rfl d_L_law_632 ?_
  refine g_icmp_eq (tgt := 639) d_L_law_634 (by decide) (fun _ => ?_) (fun h => absurd rfl h)
  refine g_iload (i := 6) rfl d_L_law_639 ?_
  refine g_if_ne_i (tgt := 656) (by omega) d_L_law_641 (by decide) (fun h641 => ?_) (fun h641 => ?_)
  · refine g_goto (tgt := 2306) (by decide) d_L_law_656 ?_
    exact g_cut (lv' := [(0, .ref (gX E).1), (1, .ref (gad E 0)), (2, .ref (gad E 62)), (3, .ref (gad E 68)), (4, .ref (gad E 69)), (5, .int (iI (I : Int)))]) ⟨rfl, rfl, rfl, rfl, rfl, rfl, trivial⟩ (hN _ _ _ _ _ _ _ _ _ hC2 (by omega) (by omega))
  · refine g_aload_n (n := 3) (i := 3) rfl rfl d_L_law_644 ?_
    refine g_iconst_i d_L_law_645 ?_
    have h0 : ta = 0 := by omega
    refine g_laload (j := 0) (f := g1) (g_mut 68 (by omega) h682) (iI_nI 0).symm (by decide) (by rfl) d_L_law_646 ?_
    refine g_iload (i := 7) rfl d_L_law_647 ?_
    refine g_i2l d_L_law_649 ?_
    refine g_lcmp d_L_law_650 ?_
    rw [hval h0, ← hr2 h0, lgc]
    refine g_if_eq_i (tgt := 656) (by decide) d_L_law_651 (by decide) (fun h651 => ?_) (fun h => absurd h (by decide))
    refine g_goto (tgt := 2306) (by decide) d_L_law_656 ?_
    exact g_cut (lv' := [(0, .ref (gX E).1), (1, .ref (gad E 0)), (2, .ref (gad E 62)), (3, .ref (gad E 68)), (4, .ref (gad E 69)), (5, .int (iI (I : Int)))]) ⟨rfl, rfl, rfl, rfl, rfl, rfl, trivial⟩ (hN _ _ _ _ _ _ _ _ _ hC2 (by omega) (by omega))

theorem op_7 {E : gE} {w : gW} {im : gIm} {Q : gQ} {c : CSt} {f : Nat → Int} {m pa sv : Int → Int} {n : Int} {I kc ks : Nat} (hL : (gX E).2.1 ≤ 3584) (hI : I + 7 ≤ (gX E).2.1) (hn6 : n < 600) (hkc : 541 ≤ kc) (hks : 3246 ≤ ks) (hCp : Cp E w im c f m pa sv n) (hN : ∀ w' im' c' f' m' pa' sv' kc' ks', Cp E w' im' c' f' m' pa' sv' (n + 1) → kc ≤ kc' + 541 → ks ≤ ks' + 3246 → G E 8 m_L_law 2306 [(0, .ref (gX E).1), (1, .ref (gad E 0)), (2, .ref (gad E 62)), (3, .ref (gad E 68)), (4, .ref (gad E 69)), (5, .int (iI (I : Int)))] [] w' im' kc' ks' Q) : G E 8 m_L_law 659 [(0, .ref (gX E).1), (1, .ref (gad E 0)), (2, .ref (gad E 62)), (3, .ref (gad E 68)), (4, .ref (gad E 69)), (5, .int (iI (I : Int)))] [] w im kc ks Q := by
  obtain ⟨hx, hm, u4, u5, u6, u7, ⟨g0, h68⟩, ⟨gd, hgd⟩, hP⟩ := id hCp
  have hR := hP.1
  obtain ⟨ok, hz, h4⟩ := id hR
  have oz := hx.2.1.1.okz
  have hgn : gN E = 70 := hm.1
  have k0 : g_cell E w im (gad E 0) _ := g_mut 0 (by omega) hx.1.2.1
  have hr2c : 0 ≤ f 2 ∧ f 2 ≤ 8 := by rw [hP.2.1.1]; exact hx.2.2.2.1
  obtain ⟨ta, ra, hga⟩ : ∃ t r, (t, r) = gSys m f (sc E (I + 1)) := ⟨_, _, rfl⟩
  have hA := A_system (f := f) ok oz hz (x := (sc E (I + 1)))
  rw [← hga] at hA
  rw [hP.2.2.2.2.2.2, hP.2.1.1] at hA
  have hta := An_rng hA
  have ha2 : ta ≠ 2 := by
    have h9 : ta = (gSys m f (sc E (I + 1))).1 := congrArg Prod.fst hga
    rw [h9]; exact n2_sys
  refine g_aload_n (n := 1) (i := 1) rfl rfl d_L_law_659 ?_
  refine g_aload_n (n := 0) (i := 0) rfl rfl d_L_law_660 ?_
  refine g_iload (i := 5) rfl d_L_law_661 ?_
  refine g_iconst_i d_L_law_663 ?_
  refine g_iadd_i d_L_law_664 ?_
  refine g_sldI (k := 1) rfl (by omega) hL d_L_law_665 ?_
  refine g_aload_n (n := 3) (i := 3) rfl rfl d_L_law_666 ?_
  refine g_callW3 rfl rfl e_L_system l_L_161 st_L_system (by decide) (by omega) (by omega) (Nat.le_of_ble_eq_true rfl) d_L_law_667 (c_L_system hx sc_rng hA ha2 h68 (fun w1 im1 g1 hLX h681 h69k hval => ?_))
  refine g_retn ?_
  obtain ⟨hm1, u41, u51, u61, u71⟩ := hCp.mid hLX
  have k2 : g_cell E w1 im1 (gad E 62) _ := g_mut 62 (by omega) hm1.2.1
  have h691 : w1 69 = dbE gd := (h69k 69 rfl).trans hgd
  refine g_istore (i := 6) (by decide) rfl d_L_law_670 ?_
  refine g_aload_n (n := 2) (i := 2) rfl rfl d_L_law_672 ?_
  refine g_aload_n (n := 0) (i := 0) rfl rfl d_L_law_673 ?_
  refine g_iload (i := 5) rfl d_L_law_674 ?_
  refine g_iconst_i d_L_law_676 ?_
  refine g_iadd_i d_L_law_677 ?_
  refine g_sldI (k := 1) rfl (by omega) hL d_L_law_678 ?_
  refine g_callV1 rfl rfl e_M_system l_L_163 iv_M_system 9 (by decide) rfl (by assumption) (by decide) (Nat.zero_le _) (Nat.zero_le _) (Nat.le_of_ble_eq_true rfl) d_L_law_679 (c_M_system hm1 ok sc_rng (fun t9 r9 w2 he9 hM => ?_))
  refine g_ret ?_
  have e1 : t9 = ta := congrArg Prod.fst (he9.trans hga.symm)
  have e2 : r9 = ra := congrArg Prod.snd (he9.trans hga.symm)
  obtain ⟨f2, hC, ht2, h682, h692⟩ := hCp.read hLX h681 h691 hM
  have hC2 := hC.mono
  have ht2 : f2 6 = ta := ht2.trans e1
  have hr2 : ta = 0 → r9 = ra := fun _ => e2
  have k2 : g_cell E w2 im1 (gad E 62) _ := g_mut 62 (by omega) hC2.2.1.2.1
  refine g_istore (i := 7) (by decide) rfl d_L_law_682 ?_
  refine g_aload_n (n := 2) (i := 2) rfl rfl d_L_law_684 ?_
  refine g_callV0 rfl rfl e_M_thrown l_L_141 iv_M_thrown 9 (by decide) rfl (by assumption) (by decide) (Nat.zero_le _) (Nat.zero_le _) (Nat.le_of_ble_eq_true rfl) d_L_law_685 (c_M_thrown hC2.2.1 ?_)
  refine g_ret ?_
  rw [ht2]
  refine g_iload (i := 6) rfl d_L_law_688 ?_
  refine g_icmp_eq (tgt := 695) d_L_law_690 (by decide) (fun _ => ?_) (fun h => absurd rfl h)
  refine g_iload (i := 6) rfl d_L_law_695 ?_
  refine g_if_ne_i (tgt := 712) (by omega) d_L_law_697 (by decide) (fun h697 => ?_) (fun h697 => ?_)
  · refine g_goto (tgt := 2306) (by decide) d_L_law_712 ?_
    exact g_cut (lv' := [(0, .ref (gX E).1), (1, .ref (gad E 0)), (2, .ref (gad E 62)), (3, .ref (gad E 68)), (4, .ref (gad E 69)), (5, .int (iI (I : Int)))]) ⟨rfl, rfl, rfl, rfl, rfl, rfl, trivial⟩ (hN _ _ _ _ _ _ _ _ _ hC2 (by omega) (by omega))
  · refine g_aload_n (n := 3) (i := 3) rfl rfl d_L_law_700 ?_
    refine g_iconst_i d_L_law_701 ?_
    have h0 : ta = 0 := by omega
    refine g_laload (j := 0) (f := g1) (g_mut 68 (by omega) h682) (iI_nI 0).symm (by decide) (by rfl) d_L_law_702 ?_
    refine g_iload (i := 7) rfl d_L_law_703 ?_
    refine g_i2l d_L_law_705 ?_
    refine g_lcmp d_L_law_706 ?_
    rw [hval h0, ← hr2 h0, lgc]
    refine g_if_eq_i (tgt := 712) (by decide) d_L_law_707 (by decide) (fun h707 => ?_) (fun h => absurd h (by decide))
    refine g_goto (tgt := 2306) (by decide) d_L_law_712 ?_
    exact g_cut (lv' := [(0, .ref (gX E).1), (1, .ref (gad E 0)), (2, .ref (gad E 62)), (3, .ref (gad E 68)), (4, .ref (gad E 69)), (5, .int (iI (I : Int)))]) ⟨rfl, rfl, rfl, rfl, rfl, rfl, trivial⟩ (hN _ _ _ _ _ _ _ _ _ hC2 (by omega) (by omega))

theorem op_9 {E : gE} {w : gW} {im : gIm} {Q : gQ} {c : CSt} {f : Nat → Int} {m pa sv : Int → Int} {n : Int} {I kc ks : Nat} (hL : (gX E).2.1 ≤ 3584) (hI : I + 7 ≤ (gX E).2.1) (hn6 : n < 600) (hkc : 541 ≤ kc) (hks : 3246 ≤ ks) (hCp : Cp E w im c f m pa sv n) (hN : ∀ w' im' c' f' m' pa' sv' kc' ks', Cp E w' im' c' f' m' pa' sv' (n + 1) → kc ≤ kc' + 541 → ks ≤ ks' + 3246 → G E 8 m_L_law 2306 [(0, .ref (gX E).1), (1, .ref (gad E 0)), (2, .ref (gad E 62)), (3, .ref (gad E 68)), (4, .ref (gad E 69)), (5, .int (iI (I : Int)))] [] w' im' kc' ks' Q) : G E 8 m_L_law 806 [(0, .ref (gX E).1), (1, .ref (gad E 0)), (2, .ref (gad E 62)), (3, .ref (gad E 68)), (4, .ref (gad E 69)), (5, .int (iI (I : Int)))] [] w im kc ks Q := by
  obtain ⟨hx, hm, u4, u5, u6, u7, ⟨g0, h68⟩, ⟨gd, hgd⟩, hP⟩ := id hCp
  have hR := hP.1
  obtain ⟨ok, hz, h4⟩ := id hR
  have oz := hx.2.1.1.okz
  have hgn : gN E = 70 := hm.1
  have k0 : g_cell E w im (gad E 0) _ := g_mut 0 (by omega) hx.1.2.1
  have hr2c : 0 ≤ f 2 ∧ f 2 ≤ 8 := by rw [hP.2.1.1]; exact hx.2.2.2.1
  obtain ⟨ta, ra, hga⟩ : ∃ t r, (t, r) = gClo m (sc E (I + 1)) (sc E (I + 2)) := ⟨_, _, rfl⟩
  have hA := A_closed ok hz (x := (sc E (I + 1))) (y := (sc E (I + 2)))
  rw [← hga] at hA
  have hta := An_rng hA
  refine g_aload_n (n := 1) (i := 1) rfl rfl d_L_law_806 ?_
  refine g_aload_n (n := 0) (i := 0) rfl rfl d_L_law_807 ?_
  refine g_iload (i := 5) rfl d_L_law_808 ?_
  refine g_iconst_i d_L_law_810 ?_
  refine g_iadd_i d_L_law_811 ?_
  refine g_sldI (k := 1) rfl (by omega) hL d_L_law_812 ?_
  refine g_aload_n (n := 0) (i := 0) rfl rfl d_L_law_813 ?_
  refine g_iload (i := 5) rfl d_L_law_814 ?_
  refine g_iconst_i d_L_law_816 ?_
  refine g_iadd_i d_L_law_817 ?_
  refine g_sldI (k := 2) rfl (by omega) hL d_L_law_818 ?_
  refine g_aload_n (n := 3) (i := 3) rfl rfl d_L_law_819 ?_
  refine g_callW4 rfl rfl e_L_closedMinutes l_L_168 st_L_closedMinutes (by decide) (by omega) (by omega) (Nat.le_of_ble_eq_true rfl) d_L_law_820 (c_L_closedMinutes hx sc_rng sc_rng hA h68 (fun w1 im1 g1 hLX h681 h69k hval => ?_))
  refine g_retn ?_
  obtain ⟨hm1, u41, u51, u61, u71⟩ := hCp.mid hLX
  have k2 : g_cell E w1 im1 (gad E 62) _ := g_mut 62 (by omega) hm1.2.1
  have h691 : w1 69 = dbE gd := (h69k 69 rfl).trans hgd
  refine g_istore (i := 6) (by decide) rfl d_L_law_823 ?_
  refine g_aload_n (n := 2) (i := 2) rfl rfl d_L_law_825 ?_
  refine g_aload_n (n := 0) (i := 0) rfl rfl d_L_law_826 ?_
  refine g_iload (i := 5) rfl d_L_law_827 ?_
  refine g_iconst_i d_L_law_829 ?_
  refine g_iadd_i d_L_law_830 ?_
  refine g_sldI (k := 1) rfl (by omega) hL d_L_law_831 ?_
  refine g_aload_n (n := 0) (i := 0) rfl rfl d_L_law_832 ?_
  refine g_iload (i := 5) rfl d_L_law_833 ?_
  refine g_iconst_i d_L_law_835 ?_
  refine g_iadd_i d_L_law_836 ?_
  refine g_sldI (k := 2) rfl (by omega) hL d_L_law_837 ?_
  refine g_callV2 rfl rfl e_M_closedMinutes l_L_170 iv_M_closedMinutes 9 (by decide) rfl (by assumption) (by decide) (Nat.zero_le _) (Nat.zero_le _) (Nat.le_of_ble_eq_true rfl) d_L_law_838 (c_M_closedMinutes hm1 ok sc_rng sc_rng (fun t9 r9 w2 he9 hM => ?_))
  refine g_ret ?_
  have e1 : t9 = ta := congrArg Prod.fst (he9.trans hga.symm)
  have e2 : r9 = ra := congrArg Prod.snd (he9.trans hga.symm)
  obtain ⟨f2, hC, ht2, h682, h692⟩ := hCp.read hLX h681 h691 hM
  have hC2 := hC.mono
  have ht2 : f2 6 = ta := ht2.trans e1
  have hr2 : ta = 0 → r9 = ra := fun _ => e2
  have k2 : g_cell E w2 im1 (gad E 62) _ := g_mut 62 (by omega) hC2.2.1.2.1
  refine g_istore (i := 7) (by decide) rfl d_L_law_841 ?_
  refine g_aload_n (n := 2) (i := 2) rfl rfl d_L_law_843 ?_
  refine g_callV0 rfl rfl e_M_thrown l_L_141 iv_M_thrown 9 (by decide) rfl (by assumption) (by decide) (Nat.zero_le _) (Nat.zero_le _) (Nat.le_of_ble_eq_true rfl) d_L_law_844 (c_M_thrown hC2.2.1 ?_)
  refine g_ret ?_
  rw [ht2]
  refine g_iload (i := 6) rfl d_L_law_847 ?_
  refine g_icmp_eq (tgt := 854) d_L_law_849 (by decide) (fun _ => ?_) (fun h => absurd rfl h)
  refine g_iload (i := 6) rfl d_L_law_854 ?_
  refine g_if_ne_i (tgt := 871) (by omega) d_L_law_856 (by decide) (fun h856 => ?_) (fun h856 => ?_)
  · refine g_goto (tgt := 2306) (by decide) d_L_law_871 ?_
    exact g_cut (lv' := [(0, .ref (gX E).1), (1, .ref (gad E 0)), (2, .ref (gad E 62)), (3, .ref (gad E 68)), (4, .ref (gad E 69)), (5, .int (iI (I : Int)))]) ⟨rfl, rfl, rfl, rfl, rfl, rfl, trivial⟩ (hN _ _ _ _ _ _ _ _ _ hC2 (by omega) (by omega))
  · refine g_aload_n (n := 3) (i := 3) rfl rfl d_L_law_859 ?_
    refine g_iconst_i d_L_law_860 ?_
    have h0 : ta = 0 := by omega
    refine g_laload (j := 0) (f := g1) (g_mut 68 (by omega) h682) (iI_nI 0).symm (by decide) (by rfl) d_L_law_861 ?_
    refine g_iload (i := 7) rfl d_L_law_862 ?_
    refine g_i2l d_L_law_864 ?_
    refine g_lcmp d_L_law_865 ?_
    rw [hval h0, ← hr2 h0, lgc]
    refine g_if_eq_i (tgt := 871) (by decide) d_L_law_866 (by decide) (fun h866 => ?_) (fun h => absurd h (by decide))
    refine g_goto (tgt := 2306) (by decide) d_L_law_871 ?_
    exact g_cut (lv' := [(0, .ref (gX E).1), (1, .ref (gad E 0)), (2, .ref (gad E 62)), (3, .ref (gad E 68)), (4, .ref (gad E 69)), (5, .int (iI (I : Int)))]) ⟨rfl, rfl, rfl, rfl, rfl, rfl, trivial⟩ (hN _ _ _ _ _ _ _ _ _ hC2 (by omega) (by omega))

theorem op_11 {E : gE} {w : gW} {im : gIm} {Q : gQ} {c : CSt} {f : Nat → Int} {m pa sv : Int → Int} {n : Int} {I kc ks : Nat} (hL : (gX E).2.1 ≤ 3584) (hI : I + 7 ≤ (gX E).2.1) (hn6 : n < 600) (hkc : 541 ≤ kc) (hks : 3246 ≤ ks) (hCp : Cp E w im c f m pa sv n) (hN : ∀ w' im' c' f' m' pa' sv' kc' ks', Cp E w' im' c' f' m' pa' sv' (n + 1) → kc ≤ kc' + 541 → ks ≤ ks' + 3246 → G E 8 m_L_law 2306 [(0, .ref (gX E).1), (1, .ref (gad E 0)), (2, .ref (gad E 62)), (3, .ref (gad E 68)), (4, .ref (gad E 69)), (5, .int (iI (I : Int)))] [] w' im' kc' ks' Q) : G E 8 m_L_law 949 [(0, .ref (gX E).1), (1, .ref (gad E 0)), (2, .ref (gad E 62)), (3, .ref (gad E 68)), (4, .ref (gad E 69)), (5, .int (iI (I : Int)))] [] w im kc ks Q := by
  obtain ⟨hx, hm, u4, u5, u6, u7, ⟨g0, h68⟩, ⟨gd, hgd⟩, hP⟩ := id hCp
  have hR := hP.1
  obtain ⟨ok, hz, h4⟩ := id hR
  have oz := hx.2.1.1.okz
  have hgn : gN E = 70 := hm.1
  have k0 : g_cell E w im (gad E 0) _ := g_mut 0 (by omega) hx.1.2.1
  have hr2c : 0 ≤ f 2 ∧ f 2 ≤ 8 := by rw [hP.2.1.1]; exact hx.2.2.2.1
  obtain ⟨ta, ra, ma, hga⟩ : ∃ t r m', (t, r, m') = gSell m (sc E (I + 1)) := ⟨_, _, _, rfl⟩
  have hB := B_sell hR (x := (sc E (I + 1)))
  rw [← hga] at hB
  have hA : An sIB sIS (eSell c (sc E (I + 1))).1 (ta, ra) := hB.1
  have hta := An_rng hA
  refine g_aload_n (n := 1) (i := 1) rfl rfl d_L_law_949 ?_
  refine g_aload_n (n := 0) (i := 0) rfl rfl d_L_law_950 ?_
  refine g_iload (i := 5) rfl d_L_law_951 ?_
  refine g_iconst_i d_L_law_953 ?_
  refine g_iadd_i d_L_law_954 ?_
  refine g_sldI (k := 1) rfl (by omega) hL d_L_law_955 ?_
  refine g_aload_n (n := 3) (i := 3) rfl rfl d_L_law_956 ?_
  refine g_callW3 rfl rfl e_L_sell l_L_174 st_L_sell (by decide) (by omega) (by omega) (Nat.le_of_ble_eq_true rfl) d_L_law_957 (c_L_sell hx sc_rng hA h68 (fun w1 im1 g1 hLX h681 h69k hval => ?_))
  refine g_retn ?_
  obtain ⟨hm1, u41, u51, u61, u71⟩ := hCp.mid hLX
  have k2 : g_cell E w1 im1 (gad E 62) _ := g_mut 62 (by omega) hm1.2.1
  have h691 : w1 69 = dbE gd := (h69k 69 rfl).trans hgd
  refine g_istore (i := 6) (by decide) rfl d_L_law_960 ?_
  refine g_aload_n (n := 2) (i := 2) rfl rfl d_L_law_962 ?_
  refine g_aload_n (n := 0) (i := 0) rfl rfl d_L_law_963 ?_
  refine g_iload (i := 5) rfl d_L_law_964 ?_
  refine g_iconst_i d_L_law_966 ?_
  refine g_iadd_i d_L_law_967 ?_
  refine g_sldI (k := 1) rfl (by omega) hL d_L_law_968 ?_
  refine g_callV1 rfl rfl e_M_sell l_L_176 iv_M_sell 9 (by decide) rfl (by assumption) (by decide) (Nat.zero_le _) (Nat.zero_le _) (Nat.le_of_ble_eq_true rfl) d_L_law_969 (c_M_sell hm1 ok u41 u61 hr2c sc_rng (fun t9 r9 m9 w2 he9 hM => ?_))
  refine g_ret ?_
  have e1 : t9 = ta := congrArg Prod.fst (he9.trans hga.symm)
  have e2 : r9 = ra := congrArg (fun x : Int × Int × (Int → Int) => x.2.1) (he9.trans hga.symm)
  obtain ⟨f2, m2, p2, hC2, ht2, h682, h692⟩ := hCp.out hB (he9.trans hga.symm) hLX h681 h691 hM
  have ht2 : f2 6 = ta := ht2.trans e1
  have hr2 : ta = 0 → r9 = ra := fun _ => e2
  have k2 : g_cell E w2 im1 (gad E 62) _ := g_mut 62 (by omega) hC2.2.1.2.1
  refine g_istore (i := 7) (by decide) rfl d_L_law_972 ?_
  refine g_aload_n (n := 2) (i := 2) rfl rfl d_L_law_974 ?_
  refine g_callV0 rfl rfl e_M_thrown l_L_141 iv_M_thrown 9 (by decide) rfl (by assumption) (by decide) (Nat.zero_le _) (Nat.zero_le _) (Nat.le_of_ble_eq_true rfl) d_L_law_975 (c_M_thrown hC2.2.1 ?_)
  refine g_ret ?_
  rw [ht2]
  refine g_iload (i := 6) rfl d_L_law_978 ?_
  refine g_icmp_eq (tgt := 985) d_L_law_980 (by decide) (fun _ => ?_) (fun h => absurd rfl h)
  refine g_iload (i := 6) rfl d_L_law_985 ?_
  refine g_if_ne_i (tgt := 1002) (by omega) d_L_law_987 (by decide) (fun h987 => ?_) (fun h987 => ?_)
  · refine g_goto (tgt := 2306) (by decide) d_L_law_1002 ?_
    exact g_cut (lv' := [(0, .ref (gX E).1), (1, .ref (gad E 0)), (2, .ref (gad E 62)), (3, .ref (gad E 68)), (4, .ref (gad E 69)), (5, .int (iI (I : Int)))]) ⟨rfl, rfl, rfl, rfl, rfl, rfl, trivial⟩ (hN _ _ _ _ _ _ _ _ _ hC2 (by omega) (by omega))
  · refine g_aload_n (n := 3) (i := 3) rfl rfl d_L_law_990 ?_
    refine g_iconst_i d_L_law_991 ?_
    have h0 : ta = 0 := by omega
    refine g_laload (j := 0) (f := g1) (g_mut 68 (by omega) h682) (iI_nI 0).symm (by decide) (by rfl) d_L_law_992 ?_
    refine g_iload (i := 7) rfl d_L_law_993 ?_
    refine g_i2l d_L_law_995 ?_
    refine g_lcmp d_L_law_996 ?_
    rw [hval h0, ← hr2 h0, lgc]
    refine g_if_eq_i (tgt := 1002) (by decide) d_L_law_997 (by decide) (fun h997 => ?_) (fun h => absurd h (by decide))
    refine g_goto (tgt := 2306) (by decide) d_L_law_1002 ?_
    exact g_cut (lv' := [(0, .ref (gX E).1), (1, .ref (gad E 0)), (2, .ref (gad E 62)), (3, .ref (gad E 68)), (4, .ref (gad E 69)), (5, .int (iI (I : Int)))]) ⟨rfl, rfl, rfl, rfl, rfl, rfl, trivial⟩ (hN _ _ _ _ _ _ _ _ _ hC2 (by omega) (by omega))

theorem op_14 {E : gE} {w : gW} {im : gIm} {Q : gQ} {c : CSt} {f : Nat → Int} {m pa sv : Int → Int} {n : Int} {I kc ks : Nat} (hL : (gX E).2.1 ≤ 3584) (hI : I + 7 ≤ (gX E).2.1) (hn6 : n < 600) (hkc : 541 ≤ kc) (hks : 3246 ≤ ks) (hCp : Cp E w im c f m pa sv n) (hN : ∀ w' im' c' f' m' pa' sv' kc' ks', Cp E w' im' c' f' m' pa' sv' (n + 1) → kc ≤ kc' + 541 → ks ≤ ks' + 3246 → G E 8 m_L_law 2306 [(0, .ref (gX E).1), (1, .ref (gad E 0)), (2, .ref (gad E 62)), (3, .ref (gad E 68)), (4, .ref (gad E 69)), (5, .int (iI (I : Int)))] [] w' im' kc' ks' Q) : G E 8 m_L_law 1141 [(0, .ref (gX E).1), (1, .ref (gad E 0)), (2, .ref (gad E 62)), (3, .ref (gad E 68)), (4, .ref (gad E 69)), (5, .int (iI (I : Int)))] [] w im kc ks Q := by
  obtain ⟨hx, hm, u4, u5, u6, u7, ⟨g0, h68⟩, ⟨gd, hgd⟩, hP⟩ := id hCp
  have hR := hP.1
  obtain ⟨ok, hz, h4⟩ := id hR
  have oz := hx.2.1.1.okz
  have hgn : gN E = 70 := hm.1
  have k0 : g_cell E w im (gad E 0) _ := g_mut 0 (by omega) hx.1.2.1
  have hr2c : 0 ≤ f 2 ∧ f 2 ≤ 8 := by rw [hP.2.1.1]; exact hx.2.2.2.1
  obtain ⟨ta, ra, hga⟩ : ∃ t r, (t, r) = gOpe m (sc E (I + 1)) := ⟨_, _, rfl⟩
  have hA := A_open ok hz (x := (sc E (I + 1)))
  rw [← hga] at hA
  have hta := An_rng hA
  have ha2 : ta ≠ 2 := by
    have h9 : ta = (gOpe m (sc E (I + 1))).1 := congrArg Prod.fst hga
    rw [h9]; exact n2_ope
  refine g_aload_n (n := 1) (i := 1) rfl rfl d_L_law_1141 ?_
  refine g_aload_n (n := 0) (i := 0) rfl rfl d_L_law_1142 ?_
  refine g_iload (i := 5) rfl d_L_law_1143 ?_
  refine g_iconst_i d_L_law_1145 ?_
  refine g_iadd_i d_L_law_1146 ?_
  refine g_sldI (k := 1) rfl (by omega) hL d_L_law_1147 ?_
  refine g_aload_n (n := 3) (i := 3) rfl rfl d_L_law_1148 ?_
  refine g_callW3 rfl rfl e_L_openGates l_L_183 st_L_openGates (by decide) (by omega) (by omega) (Nat.le_of_ble_eq_true rfl) d_L_law_1149 (c_L_openGates hx sc_rng hA ha2 h68 (fun w1 im1 g1 hLX h681 h69k hval => ?_))
  refine g_retn ?_
  obtain ⟨hm1, u41, u51, u61, u71⟩ := hCp.mid hLX
  have k2 : g_cell E w1 im1 (gad E 62) _ := g_mut 62 (by omega) hm1.2.1
  have h691 : w1 69 = dbE gd := (h69k 69 rfl).trans hgd
  refine g_istore (i := 6) (by decide) rfl d_L_law_1152 ?_
  refine g_aload_n (n := 2) (i := 2) rfl rfl d_L_law_1154 ?_
  refine g_aload_n (n := 0) (i := 0) rfl rfl d_L_law_1155 ?_
  refine g_iload (i := 5) rfl d_L_law_1156 ?_
  refine g_iconst_i d_L_law_1158 ?_
  refine g_iadd_i d_L_law_1159 ?_
  refine g_sldI (k := 1) rfl (by omega) hL d_L_law_1160 ?_
  refine g_callV1 rfl rfl e_M_openGates l_L_185 iv_M_openGates 9 (by decide) rfl (by assumption) (by decide) (Nat.zero_le _) (Nat.zero_le _) (Nat.le_of_ble_eq_true rfl) d_L_law_1161 (c_M_openGates hm1 ok sc_rng (fun t9 r9 w2 he9 hM => ?_))
  refine g_ret ?_
  have e1 : t9 = ta := congrArg Prod.fst (he9.trans hga.symm)
  have e2 : r9 = ra := congrArg Prod.snd (he9.trans hga.symm)
  obtain ⟨f2, hC, ht2, h682, h692⟩ := hCp.read hLX h681 h691 hM
  have hC2 := hC.mono
  have ht2 : f2 6 = ta := ht2.trans e1
  have hr2 : ta = 0 → r9 = ra := fun _ => e2
  have k2 : g_cell E w2 im1 (gad E 62) _ := g_mut 62 (by omega) hC2.2.1.2.1
  refine g_istore (i := 7) (by decide) rfl d_L_law_1164 ?_
  refine g_aload_n (n := 2) (i := 2) rfl rfl d_L_law_1166 ?_
  refine g_callV0 rfl rfl e_M_thrown l_L_141 iv_M_thrown 9 (by decide) rfl (by assumption) (by decide) (Nat.zero_le _) (Nat.zero_le _) (Nat.le_of_ble_eq_true rfl) d_L_law_1167 (c_M_thrown hC2.2.1 ?_)
  refine g_ret ?_
  rw [ht2]
  refine g_iload (i := 6) rfl d_L_law_1170 ?_
  refine g_icmp_eq (tgt := 1177) d_L_law_1172 (by decide) (fun _ => ?_) (fun h => absurd rfl h)
  refine g_iload (i := 6) rfl d_L_law_1177 ?_
  refine g_if_ne_i (tgt := 1194) (by omega) d_L_law_1179 (by decide) (fun h1179 => ?_) (fun h1179 => ?_)
  · refine g_goto (tgt := 2306) (by decide) d_L_law_1194 ?_
    exact g_cut (lv' := [(0, .ref (gX E).1), (1, .ref (gad E 0)), (2, .ref (gad E 62)), (3, .ref (gad E 68)), (4, .ref (gad E 69)), (5, .int (iI (I : Int)))]) ⟨rfl, rfl, rfl, rfl, rfl, rfl, trivial⟩ (hN _ _ _ _ _ _ _ _ _ hC2 (by omega) (by omega))
  · refine g_aload_n (n := 3) (i := 3) rfl rfl d_L_law_1182 ?_
    refine g_iconst_i d_L_law_1183 ?_
    have h0 : ta = 0 := by omega
    refine g_laload (j := 0) (f := g1) (g_mut 68 (by omega) h682) (iI_nI 0).symm (by decide) (by rfl) d_L_law_1184 ?_
    refine g_iload (i := 7) rfl d_L_law_1185 ?_
    refine g_i2l d_L_law_1187 ?_
    refine g_lcmp d_L_law_1188 ?_
    rw [hval h0, ← hr2 h0, lgc]
    refine g_if_eq_i (tgt := 1194) (by decide) d_L_law_1189 (by decide) (fun h1189 => ?_) (fun h => absurd h (by decide))
    refine g_goto (tgt := 2306) (by decide) d_L_law_1194 ?_
    exact g_cut (lv' := [(0, .ref (gX E).1), (1, .ref (gad E 0)), (2, .ref (gad E 62)), (3, .ref (gad E 68)), (4, .ref (gad E 69)), (5, .int (iI (I : Int)))]) ⟨rfl, rfl, rfl, rfl, rfl, rfl, trivial⟩ (hN _ _ _ _ _ _ _ _ _ hC2 (by omega) (by omega))

theorem op_17 {E : gE} {w : gW} {im : gIm} {Q : gQ} {c : CSt} {f : Nat → Int} {m pa sv : Int → Int} {n : Int} {I kc ks : Nat} (hL : (gX E).2.1 ≤ 3584) (hI : I + 7 ≤ (gX E).2.1) (hn6 : n < 600) (hkc : 541 ≤ kc) (hks : 3246 ≤ ks) (hCp : Cp E w im c f m pa sv n) (hN : ∀ w' im' c' f' m' pa' sv' kc' ks', Cp E w' im' c' f' m' pa' sv' (n + 1) → kc ≤ kc' + 541 → ks ≤ ks' + 3246 → G E 8 m_L_law 2306 [(0, .ref (gX E).1), (1, .ref (gad E 0)), (2, .ref (gad E 62)), (3, .ref (gad E 68)), (4, .ref (gad E 69)), (5, .int (iI (I : Int)))] [] w' im' kc' ks' Q) : G E 8 m_L_law 1337 [(0, .ref (gX E).1), (1, .ref (gad E 0)), (2, .ref (gad E 62)), (3, .ref (gad E 68)), (4, .ref (gad E 69)), (5, .int (iI (I : Int)))] [] w im kc ks Q := by
  obtain ⟨hx, hm, u4, u5, u6, u7, ⟨g0, h68⟩, ⟨gd, hgd⟩, hP⟩ := id hCp
  have hR := hP.1
  obtain ⟨ok, hz, h4⟩ := id hR
  have oz := hx.2.1.1.okz
  have hgn : gN E = 70 := hm.1
  have k0 : g_cell E w im (gad E 0) _ := g_mut 0 (by omega) hx.1.2.1
  have hr2c : 0 ≤ f 2 ∧ f 2 ≤ 8 := by rw [hP.2.1.1]; exact hx.2.2.2.1
  obtain ⟨ta, ra, ma, hga⟩ : ∃ t r m', (t, r, m') = gRep m (sc E (I + 1)) := ⟨_, _, _, rfl⟩
  have hB := B_replace hR (x := (sc E (I + 1)))
  rw [← hga] at hB
  have hA : An sIB sIS (eRep c (sc E (I + 1))).1 (ta, ra) := hB.1
  have hta := An_rng hA
  refine g_aload_n (n := 1) (i := 1) rfl rfl d_L_law_1337 ?_
  refine g_aload_n (n := 0) (i := 0) rfl rfl d_L_law_1338 ?_
  refine g_iload (i := 5) rfl d_L_law_1339 ?_
  refine g_iconst_i d_L_law_1341 ?_
  refine g_iadd_i d_L_law_1342 ?_
  refine g_sldI (k := 1) rfl (by omega) hL d_L_law_1343 ?_
  refine g_aload_n (n := 3) (i := 3) rfl rfl d_L_law_1344 ?_
  refine g_callW3 rfl rfl e_L_replace l_L_192 st_L_replace (by decide) (by omega) (by omega) (Nat.le_of_ble_eq_true rfl) d_L_law_1345 (c_L_replace hx sc_rng hA h68 (fun w1 im1 g1 hLX h681 h69k hval => ?_))
  refine g_retn ?_
  obtain ⟨hm1, u41, u51, u61, u71⟩ := hCp.mid hLX
  have k2 : g_cell E w1 im1 (gad E 62) _ := g_mut 62 (by omega) hm1.2.1
  have h691 : w1 69 = dbE gd := (h69k 69 rfl).trans hgd
  refine g_istore (i := 6) (by decide) rfl d_L_law_1348 ?_
  refine g_aload_n (n := 2) (i := 2) rfl rfl d_L_law_1350 ?_
  refine g_aload_n (n := 0) (i := 0) rfl rfl d_L_law_1351 ?_
  refine g_iload (i := 5) rfl d_L_law_1352 ?_
  refine g_iconst_i d_L_law_1354 ?_
  refine g_iadd_i d_L_law_1355 ?_
  refine g_sldI (k := 1) rfl (by omega) hL d_L_law_1356 ?_
  refine g_callV1 rfl rfl e_M_replace l_L_194 iv_M_replace 9 (by decide) rfl (by assumption) (by decide) (Nat.zero_le _) (Nat.zero_le _) (Nat.le_of_ble_eq_true rfl) d_L_law_1357 (c_M_replace hm1 ok u41 u61 hr2c sc_rng (fun t9 r9 m9 w2 he9 hM => ?_))
  refine g_ret ?_
  have e1 : t9 = ta := congrArg Prod.fst (he9.trans hga.symm)
  have e2 : r9 = ra := congrArg (fun x : Int × Int × (Int → Int) => x.2.1) (he9.trans hga.symm)
  obtain ⟨f2, m2, p2, hC2, ht2, h682, h692⟩ := hCp.out hB (he9.trans hga.symm) hLX h681 h691 hM
  have ht2 : f2 6 = ta := ht2.trans e1
  have hr2 : ta = 0 → r9 = ra := fun _ => e2
  have k2 : g_cell E w2 im1 (gad E 62) _ := g_mut 62 (by omega) hC2.2.1.2.1
  refine g_istore (i := 7) (by decide) rfl d_L_law_1360 ?_
  refine g_aload_n (n := 2) (i := 2) rfl rfl d_L_law_1362 ?_
  refine g_callV0 rfl rfl e_M_thrown l_L_141 iv_M_thrown 9 (by decide) rfl (by assumption) (by decide) (Nat.zero_le _) (Nat.zero_le _) (Nat.le_of_ble_eq_true rfl) d_L_law_1363 (c_M_thrown hC2.2.1 ?_)
  refine g_ret ?_
  rw [ht2]
  refine g_iload (i := 6) rfl d_L_law_1366 ?_
  refine g_icmp_eq (tgt := 1373) d_L_law_1368 (by decide) (fun _ => ?_) (fun h => absurd rfl h)
  refine g_iload (i := 6) rfl d_L_law_1373 ?_
  refine g_if_ne_i (tgt := 1390) (by omega) d_L_law_1375 (by decide) (fun h1375 => ?_) (fun h1375 => ?_)
  · refine g_goto (tgt := 2306) (by decide) d_L_law_1390 ?_
    exact g_cut (lv' := [(0, .ref (gX E).1), (1, .ref (gad E 0)), (2, .ref (gad E 62)), (3, .ref (gad E 68)), (4, .ref (gad E 69)), (5, .int (iI (I : Int)))]) ⟨rfl, rfl, rfl, rfl, rfl, rfl, trivial⟩ (hN _ _ _ _ _ _ _ _ _ hC2 (by omega) (by omega))
  · refine g_aload_n (n := 3) (i := 3) rfl rfl d_L_law_1378 ?_
    refine g_iconst_i d_L_law_1379 ?_
    have h0 : ta = 0 := by omega
    refine g_laload (j := 0) (f := g1) (g_mut 68 (by omega) h682) (iI_nI 0).symm (by decide) (by rfl) d_L_law_1380 ?_
    refine g_iload (i := 7) rfl d_L_law_1381 ?_
    refine g_i2l d_L_law_1383 ?_
    refine g_lcmp d_L_law_1384 ?_
    rw [hval h0, ← hr2 h0, lgc]
    refine g_if_eq_i (tgt := 1390) (by decide) d_L_law_1385 (by decide) (fun h1385 => ?_) (fun h => absurd h (by decide))
    refine g_goto (tgt := 2306) (by decide) d_L_law_1390 ?_
    exact g_cut (lv' := [(0, .ref (gX E).1), (1, .ref (gad E 0)), (2, .ref (gad E 62)), (3, .ref (gad E 68)), (4, .ref (gad E 69)), (5, .int (iI (I : Int)))]) ⟨rfl, rfl, rfl, rfl, rfl, rfl, trivial⟩ (hN _ _ _ _ _ _ _ _ _ hC2 (by omega) (by omega))

theorem op_18 {E : gE} {w : gW} {im : gIm} {Q : gQ} {c : CSt} {f : Nat → Int} {m pa sv : Int → Int} {n : Int} {I kc ks : Nat} (hL : (gX E).2.1 ≤ 3584) (hI : I + 7 ≤ (gX E).2.1) (hn6 : n < 600) (hkc : 541 ≤ kc) (hks : 3246 ≤ ks) (hCp : Cp E w im c f m pa sv n) (hN : ∀ w' im' c' f' m' pa' sv' kc' ks', Cp E w' im' c' f' m' pa' sv' (n + 1) → kc ≤ kc' + 541 → ks ≤ ks' + 3246 → G E 8 m_L_law 2306 [(0, .ref (gX E).1), (1, .ref (gad E 0)), (2, .ref (gad E 62)), (3, .ref (gad E 68)), (4, .ref (gad E 69)), (5, .int (iI (I : Int)))] [] w' im' kc' ks' Q) : G E 8 m_L_law 1393 [(0, .ref (gX E).1), (1, .ref (gad E 0)), (2, .ref (gad E 62)), (3, .ref (gad E 68)), (4, .ref (gad E 69)), (5, .int (iI (I : Int)))] [] w im kc ks Q := by
  obtain ⟨hx, hm, u4, u5, u6, u7, ⟨g0, h68⟩, ⟨gd, hgd⟩, hP⟩ := id hCp
  have hR := hP.1
  obtain ⟨ok, hz, h4⟩ := id hR
  have oz := hx.2.1.1.okz
  have hgn : gN E = 70 := hm.1
  have k0 : g_cell E w im (gad E 0) _ := g_mut 0 (by omega) hx.1.2.1
  have hr2c : 0 ≤ f 2 ∧ f 2 ≤ 8 := by rw [hP.2.1.1]; exact hx.2.2.2.1
  obtain ⟨ta, ra, hga⟩ : ∃ t r, (t, r) = gCard m (sc E (I + 1)) (sc E (I + 2)) := ⟨_, _, rfl⟩
  have hA := A_card ok hz (x := (sc E (I + 1))) (y := (sc E (I + 2)))
  rw [← hga] at hA
  have hta := An_rng hA
  refine g_aload_n (n := 1) (i := 1) rfl rfl d_L_law_1393 ?_
  refine g_aload_n (n := 0) (i := 0) rfl rfl d_L_law_1394 ?_
  refine g_iload (i := 5) rfl d_L_law_1395 ?_
  refine g_iconst_i d_L_law_1397 ?_
  refine g_iadd_i d_L_law_1398 ?_
  refine g_sldI (k := 1) rfl (by omega) hL d_L_law_1399 ?_
  refine g_aload_n (n := 0) (i := 0) rfl rfl d_L_law_1400 ?_
  refine g_iload (i := 5) rfl d_L_law_1401 ?_
  refine g_iconst_i d_L_law_1403 ?_
  refine g_iadd_i d_L_law_1404 ?_
  refine g_sldI (k := 2) rfl (by omega) hL d_L_law_1405 ?_
  refine g_aload_n (n := 3) (i := 3) rfl rfl d_L_law_1406 ?_
  refine g_callW4 rfl rfl e_L_card l_L_195 st_L_card (by decide) (by omega) (by omega) (Nat.le_of_ble_eq_true rfl) d_L_law_1407 (c_L_card hx sc_rng sc_rng hA h68 (fun w1 im1 g1 hLX h681 h69k hval => ?_))
  refine g_retn ?_
  obtain ⟨hm1, u41, u51, u61, u71⟩ := hCp.mid hLX
  have k2 : g_cell E w1 im1 (gad E 62) _ := g_mut 62 (by omega) hm1.2.1
  have h691 : w1 69 = dbE gd := (h69k 69 rfl).trans hgd
  refine g_istore (i := 6) (by decide) rfl d_L_law_1410 ?_
  refine g_aload_n (n := 2) (i := 2) rfl rfl d_L_law_1412 ?_
  refine g_aload_n (n := 0) (i := 0) rfl rfl d_L_law_1413 ?_
  refine g_iload (i := 5) rfl d_L_law_1414 ?_
  refine g_iconst_i d_L_law_1416 ?_
  refine g_iadd_i d_L_law_1417 ?_
  refine g_sldI (k := 1) rfl (by omega) hL d_L_law_1418 ?_
  refine g_aload_n (n := 0) (i := 0) rfl rfl d_L_law_1419 ?_
  refine g_iload (i := 5) rfl d_L_law_1420 ?_
  refine g_iconst_i d_L_law_1422 ?_
  refine g_iadd_i d_L_law_1423 ?_
  refine g_sldI (k := 2) rfl (by omega) hL d_L_law_1424 ?_
  refine g_callV2 rfl rfl e_M_card l_L_197 iv_M_card 9 (by decide) rfl (by assumption) (by decide) (Nat.zero_le _) (Nat.zero_le _) (Nat.le_of_ble_eq_true rfl) d_L_law_1425 (c_M_card hm1 ok sc_rng sc_rng (fun t9 r9 w2 he9 hM => ?_))
  refine g_ret ?_
  have e1 : t9 = ta := congrArg Prod.fst (he9.trans hga.symm)
  have e2 : r9 = ra := congrArg Prod.snd (he9.trans hga.symm)
  obtain ⟨f2, hC, ht2, h682, h692⟩ := hCp.read hLX h681 h691 hM
  have hC2 := hC.mono
  have ht2 : f2 6 = ta := ht2.trans e1
  have hr2 : ta = 0 → r9 = ra := fun _ => e2
  have k2 : g_cell E w2 im1 (gad E 62) _ := g_mut 62 (by omega) hC2.2.1.2.1
  refine g_istore (i := 7) (by decide) rfl d_L_law_1428 ?_
  refine g_aload_n (n := 2) (i := 2) rfl rfl d_L_law_1430 ?_
  refine g_callV0 rfl rfl e_M_thrown l_L_141 iv_M_thrown 9 (by decide) rfl (by assumption) (by decide) (Nat.zero_le _) (Nat.zero_le _) (Nat.le_of_ble_eq_true rfl) d_L_law_1431 (c_M_thrown hC2.2.1 ?_)
  refine g_ret ?_
  rw [ht2]
  refine g_iload (i := 6) rfl d_L_law_1434 ?_
  refine g_icmp_eq (tgt := 1441) d_L_law_1436 (by decide) (fun _ => ?_) (fun h => absurd rfl h)
  refine g_iload (i := 6) rfl d_L_law_1441 ?_
  refine g_if_ne_i (tgt := 1458) (by omega) d_L_law_1443 (by decide) (fun h1443 => ?_) (fun h1443 => ?_)
  · refine g_goto (tgt := 2306) (by decide) d_L_law_1458 ?_
    exact g_cut (lv' := [(0, .ref (gX E).1), (1, .ref (gad E 0)), (2, .ref (gad E 62)), (3, .ref (gad E 68)), (4, .ref (gad E 69)), (5, .int (iI (I : Int)))]) ⟨rfl, rfl, rfl, rfl, rfl, rfl, trivial⟩ (hN _ _ _ _ _ _ _ _ _ hC2 (by omega) (by omega))
  · refine g_aload_n (n := 3) (i := 3) rfl rfl d_L_law_1446 ?_
    refine g_iconst_i d_L_law_1447 ?_
    have h0 : ta = 0 := by omega
    refine g_laload (j := 0) (f := g1) (g_mut 68 (by omega) h682) (iI_nI 0).symm (by decide) (by rfl) d_L_law_1448 ?_
    refine g_iload (i := 7) rfl d_L_law_1449 ?_
    refine g_i2l d_L_law_1451 ?_
    refine g_lcmp d_L_law_1452 ?_
    rw [hval h0, ← hr2 h0, lgc]
    refine g_if_eq_i (tgt := 1458) (by decide) d_L_law_1453 (by decide) (fun h1453 => ?_) (fun h => absurd h (by decide))
    refine g_goto (tgt := 2306) (by decide) d_L_law_1458 ?_
    exact g_cut (lv' := [(0, .ref (gX E).1), (1, .ref (gad E 0)), (2, .ref (gad E 62)), (3, .ref (gad E 68)), (4, .ref (gad E 69)), (5, .int (iI (I : Int)))]) ⟨rfl, rfl, rfl, rfl, rfl, rfl, trivial⟩ (hN _ _ _ _ _ _ _ _ _ hC2 (by omega) (by omega))

theorem op_20 {E : gE} {w : gW} {im : gIm} {Q : gQ} {c : CSt} {f : Nat → Int} {m pa sv : Int → Int} {n : Int} {I kc ks : Nat} (hL : (gX E).2.1 ≤ 3584) (hI : I + 7 ≤ (gX E).2.1) (hn6 : n < 600) (hkc : 541 ≤ kc) (hks : 3246 ≤ ks) (hCp : Cp E w im c f m pa sv n) (hN : ∀ w' im' c' f' m' pa' sv' kc' ks', Cp E w' im' c' f' m' pa' sv' (n + 1) → kc ≤ kc' + 541 → ks ≤ ks' + 3246 → G E 8 m_L_law 2306 [(0, .ref (gX E).1), (1, .ref (gad E 0)), (2, .ref (gad E 62)), (3, .ref (gad E 68)), (4, .ref (gad E 69)), (5, .int (iI (I : Int)))] [] w' im' kc' ks' Q) : G E 8 m_L_law 1557 [(0, .ref (gX E).1), (1, .ref (gad E 0)), (2, .ref (gad E 62)), (3, .ref (gad E 68)), (4, .ref (gad E 69)), (5, .int (iI (I : Int)))] [] w im kc ks Q := by
  obtain ⟨hx, hm, u4, u5, u6, u7, ⟨g0, h68⟩, ⟨gd, hgd⟩, hP⟩ := id hCp
  have hR := hP.1
  obtain ⟨ok, hz, h4⟩ := id hR
  have oz := hx.2.1.1.okz
  have hgn : gN E = 70 := hm.1
  have k0 : g_cell E w im (gad E 0) _ := g_mut 0 (by omega) hx.1.2.1
  have hr2c : 0 ≤ f 2 ∧ f 2 ≤ 8 := by rw [hP.2.1.1]; exact hx.2.2.2.1
  obtain ⟨ta, ra, hga⟩ : ∃ t r, (t, r) = gRfb m (sc E (I + 1)) := ⟨_, _, rfl⟩
  have hA := A_refundable ok hz (x := (sc E (I + 1)))
  rw [← hga] at hA
  have hta := An_rng hA
  have ha2 : ta ≠ 2 := by
    have h9 : ta = (gRfb m (sc E (I + 1))).1 := congrArg Prod.fst hga
    rw [h9]; exact n2_rfb
  refine g_aload_n (n := 1) (i := 1) rfl rfl d_L_law_1557 ?_
  refine g_aload_n (n := 0) (i := 0) rfl rfl d_L_law_1558 ?_
  refine g_iload (i := 5) rfl d_L_law_1559 ?_
  refine g_iconst_i d_L_law_1561 ?_
  refine g_iadd_i d_L_law_1562 ?_
  refine g_sldI (k := 1) rfl (by omega) hL d_L_law_1563 ?_
  refine g_aload_n (n := 3) (i := 3) rfl rfl d_L_law_1564 ?_
  refine g_callW3 rfl rfl e_L_refundable l_L_202 st_L_refundable (by decide) (by omega) (by omega) (Nat.le_of_ble_eq_true rfl) d_L_law_1565 (c_L_refundable hx sc_rng hA ha2 h68 (fun w1 im1 g1 hLX h681 h69k hval => ?_))
  refine g_retn ?_
  obtain ⟨hm1, u41, u51, u61, u71⟩ := hCp.mid hLX
  have k2 : g_cell E w1 im1 (gad E 62) _ := g_mut 62 (by omega) hm1.2.1
  have h691 : w1 69 = dbE gd := (h69k 69 rfl).trans hgd
  refine g_istore (i := 6) (by decide) rfl d_L_law_1568 ?_
  refine g_aload_n (n := 2) (i := 2) rfl rfl d_L_law_1570 ?_
  refine g_aload_n (n := 0) (i := 0) rfl rfl d_L_law_1571 ?_
  refine g_iload (i := 5) rfl d_L_law_1572 ?_
  refine g_iconst_i d_L_law_1574 ?_
  refine g_iadd_i d_L_law_1575 ?_
  refine g_sldI (k := 1) rfl (by omega) hL d_L_law_1576 ?_
  refine g_callV1 rfl rfl e_M_refundable l_L_204 iv_M_refundable 9 (by decide) rfl (by assumption) (by decide) (Nat.zero_le _) (Nat.zero_le _) (Nat.le_of_ble_eq_true rfl) d_L_law_1577 (c_M_refundable hm1 ok sc_rng (fun t9 r9 w2 he9 hM => ?_))
  refine g_ret ?_
  have e1 : t9 = ta := congrArg Prod.fst (he9.trans hga.symm)
  have e2 : r9 = ra := congrArg Prod.snd (he9.trans hga.symm)
  obtain ⟨f2, hC, ht2, h682, h692⟩ := hCp.read hLX h681 h691 hM
  have hC2 := hC.mono
  have ht2 : f2 6 = ta := ht2.trans e1
  have hr2 : ta = 0 → r9 = ra := fun _ => e2
  have k2 : g_cell E w2 im1 (gad E 62) _ := g_mut 62 (by omega) hC2.2.1.2.1
  refine g_istore (i := 7) (by decide) rfl d_L_law_1580 ?_
  refine g_aload_n (n := 2) (i := 2) rfl rfl d_L_law_1582 ?_
  refine g_callV0 rfl rfl e_M_thrown l_L_141 iv_M_thrown 9 (by decide) rfl (by assumption) (by decide) (Nat.zero_le _) (Nat.zero_le _) (Nat.le_of_ble_eq_true rfl) d_L_law_1583 (c_M_thrown hC2.2.1 ?_)
  refine g_ret ?_
  rw [ht2]
  refine g_iload (i := 6) rfl d_L_law_1586 ?_
  refine g_icmp_eq (tgt := 1593) d_L_law_1588 (by decide) (fun _ => ?_) (fun h => absurd rfl h)
  refine g_iload (i := 6) rfl d_L_law_1593 ?_
  refine g_if_ne_i (tgt := 1610) (by omega) d_L_law_1595 (by decide) (fun h1595 => ?_) (fun h1595 => ?_)
  · refine g_goto (tgt := 2306) (by decide) d_L_law_1610 ?_
    exact g_cut (lv' := [(0, .ref (gX E).1), (1, .ref (gad E 0)), (2, .ref (gad E 62)), (3, .ref (gad E 68)), (4, .ref (gad E 69)), (5, .int (iI (I : Int)))]) ⟨rfl, rfl, rfl, rfl, rfl, rfl, trivial⟩ (hN _ _ _ _ _ _ _ _ _ hC2 (by omega) (by omega))
  · refine g_aload_n (n := 3) (i := 3) rfl rfl d_L_law_1598 ?_
    refine g_iconst_i d_L_law_1599 ?_
    have h0 : ta = 0 := by omega
    refine g_laload (j := 0) (f := g1) (g_mut 68 (by omega) h682) (iI_nI 0).symm (by decide) (by rfl) d_L_law_1600 ?_
    refine g_iload (i := 7) rfl d_L_law_1601 ?_
    refine g_i2l d_L_law_1603 ?_
    refine g_lcmp d_L_law_1604 ?_
    rw [hval h0, ← hr2 h0, lgc]
    refine g_if_eq_i (tgt := 1610) (by decide) d_L_law_1605 (by decide) (fun h1605 => ?_) (fun h => absurd h (by decide))
    refine g_goto (tgt := 2306) (by decide) d_L_law_1610 ?_
    exact g_cut (lv' := [(0, .ref (gX E).1), (1, .ref (gad E 0)), (2, .ref (gad E 62)), (3, .ref (gad E 68)), (4, .ref (gad E 69)), (5, .int (iI (I : Int)))]) ⟨rfl, rfl, rfl, rfl, rfl, rfl, trivial⟩ (hN _ _ _ _ _ _ _ _ _ hC2 (by omega) (by omega))

theorem op_21 {E : gE} {w : gW} {im : gIm} {Q : gQ} {c : CSt} {f : Nat → Int} {m pa sv : Int → Int} {n : Int} {I kc ks : Nat} (hL : (gX E).2.1 ≤ 3584) (hI : I + 7 ≤ (gX E).2.1) (hn6 : n < 600) (hkc : 541 ≤ kc) (hks : 3246 ≤ ks) (hCp : Cp E w im c f m pa sv n) (hN : ∀ w' im' c' f' m' pa' sv' kc' ks', Cp E w' im' c' f' m' pa' sv' (n + 1) → kc ≤ kc' + 541 → ks ≤ ks' + 3246 → G E 8 m_L_law 2306 [(0, .ref (gX E).1), (1, .ref (gad E 0)), (2, .ref (gad E 62)), (3, .ref (gad E 68)), (4, .ref (gad E 69)), (5, .int (iI (I : Int)))] [] w' im' kc' ks' Q) : G E 8 m_L_law 1613 [(0, .ref (gX E).1), (1, .ref (gad E 0)), (2, .ref (gad E 62)), (3, .ref (gad E 68)), (4, .ref (gad E 69)), (5, .int (iI (I : Int)))] [] w im kc ks Q := by
  obtain ⟨hx, hm, u4, u5, u6, u7, ⟨g0, h68⟩, ⟨gd, hgd⟩, hP⟩ := id hCp
  have hR := hP.1
  obtain ⟨ok, hz, h4⟩ := id hR
  have oz := hx.2.1.1.okz
  have hgn : gN E = 70 := hm.1
  have k0 : g_cell E w im (gad E 0) _ := g_mut 0 (by omega) hx.1.2.1
  have hr2c : 0 ≤ f 2 ∧ f 2 ≤ 8 := by rw [hP.2.1.1]; exact hx.2.2.2.1
  obtain ⟨ta, ra, ma, hga⟩ : ∃ t r m', (t, r, m') = gRefu m (sc E (I + 1)) := ⟨_, _, _, rfl⟩
  have hB := B_refund hR (x := (sc E (I + 1)))
  rw [← hga] at hB
  have hA : An sIB sIS (eRef c (sc E (I + 1))).1 (ta, ra) := hB.1
  have hta := An_rng hA
  refine g_aload_n (n := 1) (i := 1) rfl rfl d_L_law_1613 ?_
  refine g_aload_n (n := 0) (i := 0) rfl rfl d_L_law_1614 ?_
  refine g_iload (i := 5) rfl d_L_law_1615 ?_
  refine g_iconst_i d_L_law_1617 ?_
  refine g_iadd_i d_L_law_1618 ?_
  refine g_sldI (k := 1) rfl (by omega) hL d_L_law_1619 ?_
  refine g_aload_n (n := 3) (i := 3) rfl rfl d_L_law_1620 ?_
  refine g_callW3 rfl rfl e_L_refund l_L_205 st_L_refund (by decide) (by omega) (by omega) (Nat.le_of_ble_eq_true rfl) d_L_law_1621 (c_L_refund hx sc_rng hA h68 (fun w1 im1 g1 hLX h681 h69k hval => ?_))
  refine g_retn ?_
  obtain ⟨hm1, u41, u51, u61, u71⟩ := hCp.mid hLX
  have k2 : g_cell E w1 im1 (gad E 62) _ := g_mut 62 (by omega) hm1.2.1
  have h691 : w1 69 = dbE gd := (h69k 69 rfl).trans hgd
  refine g_istore (i := 6) (by decide) rfl d_L_law_1624 ?_
  refine g_aload_n (n := 2) (i := 2) rfl rfl d_L_law_1626 ?_
  refine g_aload_n (n := 0) (i := 0) rfl rfl d_L_law_1627 ?_
  refine g_iload (i := 5) rfl d_L_law_1628 ?_
  refine g_iconst_i d_L_law_1630 ?_
  refine g_iadd_i d_L_law_1631 ?_
  refine g_sldI (k := 1) rfl (by omega) hL d_L_law_1632 ?_
  refine g_callV1 rfl rfl e_M_refund l_L_207 iv_M_refund 9 (by decide) rfl (by assumption) (by decide) (Nat.zero_le _) (Nat.zero_le _) (Nat.le_of_ble_eq_true rfl) d_L_law_1633 (c_M_refund hm1 ok u41 u61 hr2c sc_rng (fun t9 r9 m9 w2 he9 hM => ?_))
  refine g_ret ?_
  have e1 : t9 = ta := congrArg Prod.fst (he9.trans hga.symm)
  have e2 : r9 = ra := congrArg (fun x : Int × Int × (Int → Int) => x.2.1) (he9.trans hga.symm)
  obtain ⟨f2, m2, p2, hC2, ht2, h682, h692⟩ := hCp.out hB (he9.trans hga.symm) hLX h681 h691 hM
  have ht2 : f2 6 = ta := ht2.trans e1
  have hr2 : ta = 0 → r9 = ra := fun _ => e2
  have k2 : g_cell E w2 im1 (gad E 62) _ := g_mut 62 (by omega) hC2.2.1.2.1
  refine g_istore (i := 7) (by decide) rfl d_L_law_1636 ?_
  refine g_aload_n (n := 2) (i := 2) rfl rfl d_L_law_1638 ?_
  refine g_callV0 rfl rfl e_M_thrown l_L_141 iv_M_thrown 9 (by decide) rfl (by assumption) (by decide) (Nat.zero_le _) (Nat.zero_le _) (Nat.le_of_ble_eq_true rfl) d_L_law_1639 (c_M_thrown hC2.2.1 ?_)
  refine g_ret ?_
  rw [ht2]
  refine g_iload (i := 6) rfl d_L_law_1642 ?_
  refine g_icmp_eq (tgt := 1649) d_L_law_1644 (by decide) (fun _ => ?_) (fun h => absurd rfl h)
  refine g_iload (i := 6) rfl d_L_law_1649 ?_
  refine g_if_ne_i (tgt := 1666) (by omega) d_L_law_1651 (by decide) (fun h1651 => ?_) (fun h1651 => ?_)
  · refine g_goto (tgt := 2306) (by decide) d_L_law_1666 ?_
    exact g_cut (lv' := [(0, .ref (gX E).1), (1, .ref (gad E 0)), (2, .ref (gad E 62)), (3, .ref (gad E 68)), (4, .ref (gad E 69)), (5, .int (iI (I : Int)))]) ⟨rfl, rfl, rfl, rfl, rfl, rfl, trivial⟩ (hN _ _ _ _ _ _ _ _ _ hC2 (by omega) (by omega))
  · refine g_aload_n (n := 3) (i := 3) rfl rfl d_L_law_1654 ?_
    refine g_iconst_i d_L_law_1655 ?_
    have h0 : ta = 0 := by omega
    refine g_laload (j := 0) (f := g1) (g_mut 68 (by omega) h682) (iI_nI 0).symm (by decide) (by rfl) d_L_law_1656 ?_
    refine g_iload (i := 7) rfl d_L_law_1657 ?_
    refine g_i2l d_L_law_1659 ?_
    refine g_lcmp d_L_law_1660 ?_
    rw [hval h0, ← hr2 h0, lgc]
    refine g_if_eq_i (tgt := 1666) (by decide) d_L_law_1661 (by decide) (fun h1661 => ?_) (fun h => absurd h (by decide))
    refine g_goto (tgt := 2306) (by decide) d_L_law_1666 ?_
    exact g_cut (lv' := [(0, .ref (gX E).1), (1, .ref (gad E 0)), (2, .ref (gad E 62)), (3, .ref (gad E 68)), (4, .ref (gad E 69)), (5, .int (iI (I : Int)))]) ⟨rfl, rfl, rfl, rfl, rfl, rfl, trivial⟩ (hN _ _ _ _ _ _ _ _ _ hC2 (by omega) (by omega))

theorem op_22 {E : gE} {w : gW} {im : gIm} {Q : gQ} {c : CSt} {f : Nat → Int} {m pa sv : Int → Int} {n : Int} {I kc ks : Nat} (hL : (gX E).2.1 ≤ 3584) (hI : I + 7 ≤ (gX E).2.1) (hn6 : n < 600) (hkc : 541 ≤ kc) (hks : 3246 ≤ ks) (hCp : Cp E w im c f m pa sv n) (hN : ∀ w' im' c' f' m' pa' sv' kc' ks', Cp E w' im' c' f' m' pa' sv' (n + 1) → kc ≤ kc' + 541 → ks ≤ ks' + 3246 → G E 8 m_L_law 2306 [(0, .ref (gX E).1), (1, .ref (gad E 0)), (2, .ref (gad E 62)), (3, .ref (gad E 68)), (4, .ref (gad E 69)), (5, .int (iI (I : Int)))] [] w' im' kc' ks' Q) : G E 8 m_L_law 1669 [(0, .ref (gX E).1), (1, .ref (gad E 0)), (2, .ref (gad E 62)), (3, .ref (gad E 68)), (4, .ref (gad E 69)), (5, .int (iI (I : Int)))] [] w im kc ks Q := by
  obtain ⟨hx, hm, u4, u5, u6, u7, ⟨g0, h68⟩, ⟨gd, hgd⟩, hP⟩ := id hCp
  have hR := hP.1
  obtain ⟨ok, hz, h4⟩ := id hR
  have oz := hx.2.1.1.okz
  have hgn : gN E = 70 := hm.1
  have k0 : g_cell E w im (gad E 0) _ := g_mut 0 (by omega) hx.1.2.1
  have hr2c : 0 ≤ f 2 ∧ f 2 ≤ 8 := by rw [hP.2.1.1]; exact hx.2.2.2.1
  obtain ⟨ta, ra, hga⟩ : ∃ t r, (t, r) = gSha m (sc E (I + 1)) (sc E (I + 2)) := ⟨_, _, rfl⟩
  have hA := A_share ok hz (x := (sc E (I + 1))) (y := (sc E (I + 2)))
  rw [← hga] at hA
  have hta := An_rng hA
  have ha2 : ta ≠ 2 := by
    have h9 : ta = (gSha m (sc E (I + 1)) (sc E (I + 2))).1 := congrArg Prod.fst hga
    rw [h9]; exact n2_sha
  refine g_aload_n (n := 1) (i := 1) rfl rfl d_L_law_1669 ?_
  refine g_aload_n (n := 0) (i := 0) rfl rfl d_L_law_1670 ?_
  refine g_iload (i := 5) rfl d_L_law_1671 ?_
  refine g_iconst_i d_L_law_1673 ?_
  refine g_iadd_i d_L_law_1674 ?_
  refine g_sldI (k := 1) rfl (by omega) hL d_L_law_1675 ?_
  refine g_aload_n (n := 0) (i := 0) rfl rfl d_L_law_1676 ?_
  refine g_iload (i := 5) rfl d_L_law_1677 ?_
  refine g_iconst_i d_L_law_1679 ?_
  refine g_iadd_i d_L_law_1680 ?_
  refine g_sldI (k := 2) rfl (by omega) hL d_L_law_1681 ?_
  refine g_aload_n (n := 3) (i := 3) rfl rfl d_L_law_1682 ?_
  refine g_callW4 rfl rfl e_L_share l_L_208 st_L_share (by decide) (by omega) (by omega) (Nat.le_of_ble_eq_true rfl) d_L_law_1683 (c_L_share hx sc_rng sc_rng hA ha2 h68 (fun w1 im1 g1 hLX h681 h69k hval => ?_))
  refine g_retn ?_
  obtain ⟨hm1, u41, u51, u61, u71⟩ := hCp.mid hLX
  have k2 : g_cell E w1 im1 (gad E 62) _ := g_mut 62 (by omega) hm1.2.1
  have h691 : w1 69 = dbE gd := (h69k 69 rfl).trans hgd
  refine g_istore (i := 6) (by decide) rfl d_L_law_1686 ?_
  refine g_aload_n (n := 2) (i := 2) rfl rfl d_L_law_1688 ?_
  refine g_aload_n (n := 0) (i := 0) rfl rfl d_L_law_1689 ?_
  refine g_iload (i := 5) rfl d_L_law_1690 ?_
  refine g_iconst_i d_L_law_1692 ?_
  refine g_iadd_i d_L_law_1693 ?_
  refine g_sldI (k := 1) rfl (by omega) hL d_L_law_1694 ?_
  refine g_aload_n (n := 0) (i := 0) rfl rfl d_L_law_1695 ?_
  refine g_iload (i := 5) rfl d_L_law_1696 ?_
  refine g_iconst_i d_L_law_1698 ?_
  refine g_iadd_i d_L_law_1699 ?_
  refine g_sldI (k := 2) rfl (by omega) hL d_L_law_1700 ?_
  refine g_callV2 rfl rfl e_M_share l_L_210 iv_M_share 9 (by decide) rfl (by assumption) (by decide) (Nat.zero_le _) (Nat.zero_le _) (Nat.le_of_ble_eq_true rfl) d_L_law_1701 (c_M_share hm1 ok sc_rng sc_rng (fun t9 r9 w2 he9 hM => ?_))
  refine g_ret ?_
  have e1 : t9 = ta := congrArg Prod.fst (he9.trans hga.symm)
  have e2 : r9 = ra := congrArg Prod.snd (he9.trans hga.symm)
  obtain ⟨f2, hC, ht2, h682, h692⟩ := hCp.read hLX h681 h691 hM
  have hC2 := hC.mono
  have ht2 : f2 6 = ta := ht2.trans e1
  have hr2 : ta = 0 → r9 = ra := fun _ => e2
  have k2 : g_cell E w2 im1 (gad E 62) _ := g_mut 62 (by omega) hC2.2.1.2.1
  refine g_istore (i := 7) (by decide) rfl d_L_law_1704 ?_
  refine g_aload_n (n := 2) (i := 2) rfl rfl d_L_law_1706 ?_
  refine g_callV0 rfl rfl e_M_thrown l_L_141 iv_M_thrown 9 (by decide) rfl (by assumption) (by decide) (Nat.zero_le _) (Nat.zero_le _) (Nat.le_of_ble_eq_true rfl) d_L_law_1707 (c_M_thrown hC2.2.1 ?_)
  refine g_ret ?_
  rw [ht2]
  refine g_iload (i := 6) rfl d_L_law_1710 ?_
  refine g_icmp_eq (tgt := 1717) d_L_law_1712 (by decide) (fun _ => ?_) (fun h => absurd rfl h)
  refine g_iload (i := 6) rfl d_L_law_1717 ?_
  refine g_if_ne_i (tgt := 1734) (by omega) d_L_law_1719 (by decide) (fun h1719 => ?_) (fun h1719 => ?_)
  · refine g_goto (tgt := 2306) (by decide) d_L_law_1734 ?_
    exact g_cut (lv' := [(0, .ref (gX E).1), (1, .ref (gad E 0)), (2, .ref (gad E 62)), (3, .ref (gad E 68)), (4, .ref (gad E 69)), (5, .int (iI (I : Int)))]) ⟨rfl, rfl, rfl, rfl, rfl, rfl, trivial⟩ (hN _ _ _ _ _ _ _ _ _ hC2 (by omega) (by omega))
  · refine g_aload_n (n := 3) (i := 3) rfl rfl d_L_law_1722 ?_
    refine g_iconst_i d_L_law_1723 ?_
    have h0 : ta = 0 := by omega
    refine g_laload (j := 0) (f := g1) (g_mut 68 (by omega) h682) (iI_nI 0).symm (by decide) (by rfl) d_L_law_1724 ?_
    refine g_iload (i := 7) rfl d_L_law_1725 ?_
    refine g_i2l d_L_law_1727 ?_
    refine g_lcmp d_L_law_1728 ?_
    rw [hval h0, ← hr2 h0, lgc]
    refine g_if_eq_i (tgt := 1734) (by decide) d_L_law_1729 (by decide) (fun h1729 => ?_) (fun h => absurd h (by decide))
    refine g_goto (tgt := 2306) (by decide) d_L_law_1734 ?_
    exact g_cut (lv' := [(0, .ref (gX E).1), (1, .ref (gad E 0)), (2, .ref (gad E 62)), (3, .ref (gad E 68)), (4, .ref (gad E 69)), (5, .int (iI (I : Int)))]) ⟨rfl, rfl, rfl, rfl, rfl, rfl, trivial⟩ (hN _ _ _ _ _ _ _ _ _ hC2 (by omega) (by omega))

theorem op_23 {E : gE} {w : gW} {im : gIm} {Q : gQ} {c : CSt} {f : Nat → Int} {m pa sv : Int → Int} {n : Int} {I kc ks : Nat} (hL : (gX E).2.1 ≤ 3584) (hI : I + 7 ≤ (gX E).2.1) (hn6 : n < 600) (hkc : 541 ≤ kc) (hks : 3246 ≤ ks) (hCp : Cp E w im c f m pa sv n) (hN : ∀ w' im' c' f' m' pa' sv' kc' ks', Cp E w' im' c' f' m' pa' sv' (n + 1) → kc ≤ kc' + 541 → ks ≤ ks' + 3246 → G E 8 m_L_law 2306 [(0, .ref (gX E).1), (1, .ref (gad E 0)), (2, .ref (gad E 62)), (3, .ref (gad E 68)), (4, .ref (gad E 69)), (5, .int (iI (I : Int)))] [] w' im' kc' ks' Q) : G E 8 m_L_law 1737 [(0, .ref (gX E).1), (1, .ref (gad E 0)), (2, .ref (gad E 62)), (3, .ref (gad E 68)), (4, .ref (gad E 69)), (5, .int (iI (I : Int)))] [] w im kc ks Q := by
  obtain ⟨hx, hm, u4, u5, u6, u7, ⟨g0, h68⟩, ⟨gd, hgd⟩, hP⟩ := id hCp
  have hR := hP.1
  obtain ⟨ok, hz, h4⟩ := id hR
  have oz := hx.2.1.1.okz
  have hgn : gN E = 70 := hm.1
  have k0 : g_cell E w im (gad E 0) _ := g_mut 0 (by omega) hx.1.2.1
  have hr2c : 0 ≤ f 2 ∧ f 2 ≤ 8 := by rw [hP.2.1.1]; exact hx.2.2.2.1
  obtain ⟨ta, ra, hga⟩ : ∃ t r, (t, r) = gPar m (sc E (I + 1)) (sc E (I + 2)) := ⟨_, _, rfl⟩
  have hA := A_partner ok hz (x := (sc E (I + 1))) (y := (sc E (I + 2)))
  rw [← hga] at hA
  have hta := An_rng hA
  refine g_aload_n (n := 1) (i := 1) rfl rfl d_L_law_1737 ?_
  refine g_aload_n (n := 0) (i := 0) rfl rfl d_L_law_1738 ?_
  refine g_iload (i := 5) rfl d_L_law_1739 ?_
  refine g_iconst_i d_L_law_1741 ?_
  refine g_iadd_i d_L_law_1742 ?_
  refine g_sldI (k := 1) rfl (by omega) hL d_L_law_1743 ?_
  refine g_aload_n (n := 0) (i := 0) rfl rfl d_L_law_1744 ?_
  refine g_iload (i := 5) rfl d_L_law_1745 ?_
  refine g_iconst_i d_L_law_1747 ?_
  refine g_iadd_i d_L_law_1748 ?_
  refine g_sldI (k := 2) rfl (by omega) hL d_L_law_1749 ?_
  refine g_aload_n (n := 3) (i := 3) rfl rfl d_L_law_1750 ?_
  refine g_callW4 rfl rfl e_L_partner l_L_211 st_L_partner (by decide) (by omega) (by omega) (Nat.le_of_ble_eq_true rfl) d_L_law_1751 (c_L_partner hx sc_rng sc_rng hA h68 (fun w1 im1 g1 hLX h681 h69k hval => ?_))
  refine g_retn ?_
  obtain ⟨hm1, u41, u51, u61, u71⟩ := hCp.mid hLX
  have k2 : g_cell E w1 im1 (gad E 62) _ := g_mut 62 (by omega) hm1.2.1
  have h691 : w1 69 = dbE gd := (h69k 69 rfl).trans hgd
  refine g_istore (i := 6) (by decide) rfl d_L_law_1754 ?_
  refine g_aload_n (n := 2) (i := 2) rfl rfl d_L_law_1756 ?_
  refine g_aload_n (n := 0) (i := 0) rfl rfl d_L_law_1757 ?_
  refine g_iload (i := 5) rfl d_L_law_1758 ?_
  refine g_iconst_i d_L_law_1760 ?_
  refine g_iadd_i d_L_law_1761 ?_
  refine g_sldI (k := 1) rfl (by omega) hL d_L_law_1762 ?_
  refine g_aload_n (n := 0) (i := 0) rfl rfl d_L_law_1763 ?_
  refine g_iload (i := 5) rfl d_L_law_1764 ?_
  refine g_iconst_i d_L_law_1766 ?_
  refine g_iadd_i d_L_law_1767 ?_
  refine g_sldI (k := 2) rfl (by omega) hL d_L_law_1768 ?_
  refine g_callV2 rfl rfl e_M_partner l_L_213 iv_M_partner 9 (by decide) rfl (by assumption) (by decide) (Nat.zero_le _) (Nat.zero_le _) (Nat.le_of_ble_eq_true rfl) d_L_law_1769 (c_M_partner hm1 ok sc_rng sc_rng (fun t9 r9 w2 he9 hM => ?_))
  refine g_ret ?_
  have e1 : t9 = ta := congrArg Prod.fst (he9.trans hga.symm)
  have e2 : r9 = ra := congrArg Prod.snd (he9.trans hga.symm)
  obtain ⟨f2, hC, ht2, h682, h692⟩ := hCp.read hLX h681 h691 hM
  have hC2 := hC.mono
  have ht2 : f2 6 = ta := ht2.trans e1
  have hr2 : ta = 0 → r9 = ra := fun _ => e2
  have k2 : g_cell E w2 im1 (gad E 62) _ := g_mut 62 (by omega) hC2.2.1.2.1
  refine g_istore (i := 7) (by decide) rfl d_L_law_1772 ?_
  refine g_aload_n (n := 2) (i := 2) rfl rfl d_L_law_1774 ?_
  refine g_callV0 rfl rfl e_M_thrown l_L_141 iv_M_thrown 9 (by decide) rfl (by assumption) (by decide) (Nat.zero_le _) (Nat.zero_le _) (Nat.le_of_ble_eq_true rfl) d_L_law_1775 (c_M_thrown hC2.2.1 ?_)
  refine g_ret ?_
  rw [ht2]
  refine g_iload (i := 6) rfl d_L_law_1778 ?_
  refine g_icmp_eq (tgt := 1785) d_L_law_1780 (by decide) (fun _ => ?_) (fun h => absurd rfl h)
  refine g_iload (i := 6) rfl d_L_law_1785 ?_
  refine g_if_ne_i (tgt := 1802) (by omega) d_L_law_1787 (by decide) (fun h1787 => ?_) (fun h1787 => ?_)
  · refine g_goto (tgt := 2306) (by decide) d_L_law_1802 ?_
    exact g_cut (lv' := [(0, .ref (gX E).1), (1, .ref (gad E 0)), (2, .ref (gad E 62)), (3, .ref (gad E 68)), (4, .ref (gad E 69)), (5, .int (iI (I : Int)))]) ⟨rfl, rfl, rfl, rfl, rfl, rfl, trivial⟩ (hN _ _ _ _ _ _ _ _ _ hC2 (by omega) (by omega))
  · refine g_aload_n (n := 3) (i := 3) rfl rfl d_L_law_1790 ?_
    refine g_iconst_i d_L_law_1791 ?_
    have h0 : ta = 0 := by omega
    refine g_laload (j := 0) (f := g1) (g_mut 68 (by omega) h682) (iI_nI 0).symm (by decide) (by rfl) d_L_law_1792 ?_
    refine g_iload (i := 7) rfl d_L_law_1793 ?_
    refine g_i2l d_L_law_1795 ?_
    refine g_lcmp d_L_law_1796 ?_
    rw [hval h0, ← hr2 h0, lgc]
    refine g_if_eq_i (tgt := 1802) (by decide) d_L_law_1797 (by decide) (fun h1797 => ?_) (fun h => absurd h (by decide))
    refine g_goto (tgt := 2306) (by decide) d_L_law_1802 ?_
    exact g_cut (lv' := [(0, .ref (gX E).1), (1, .ref (gad E 0)), (2, .ref (gad E 62)), (3, .ref (gad E 68)), (4, .ref (gad E 69)), (5, .int (iI (I : Int)))]) ⟨rfl, rfl, rfl, rfl, rfl, rfl, trivial⟩ (hN _ _ _ _ _ _ _ _ _ hC2 (by omega) (by omega))

theorem op_24 {E : gE} {w : gW} {im : gIm} {Q : gQ} {c : CSt} {f : Nat → Int} {m pa sv : Int → Int} {n : Int} {I kc ks : Nat} (hL : (gX E).2.1 ≤ 3584) (hI : I + 7 ≤ (gX E).2.1) (hn6 : n < 600) (hkc : 541 ≤ kc) (hks : 3246 ≤ ks) (hCp : Cp E w im c f m pa sv n) (hN : ∀ w' im' c' f' m' pa' sv' kc' ks', Cp E w' im' c' f' m' pa' sv' (n + 1) → kc ≤ kc' + 541 → ks ≤ ks' + 3246 → G E 8 m_L_law 2306 [(0, .ref (gX E).1), (1, .ref (gad E 0)), (2, .ref (gad E 62)), (3, .ref (gad E 68)), (4, .ref (gad E 69)), (5, .int (iI (I : Int)))] [] w' im' kc' ks' Q) : G E 8 m_L_law 1805 [(0, .ref (gX E).1), (1, .ref (gad E 0)), (2, .ref (gad E 62)), (3, .ref (gad E 68)), (4, .ref (gad E 69)), (5, .int (iI (I : Int)))] [] w im kc ks Q := by
  obtain ⟨hx, hm, u4, u5, u6, u7, ⟨g0, h68⟩, ⟨gd, hgd⟩, hP⟩ := id hCp
  have hR := hP.1
  obtain ⟨ok, hz, h4⟩ := id hR
  have oz := hx.2.1.1.okz
  have hgn : gN E = 70 := hm.1
  have k0 : g_cell E w im (gad E 0) _ := g_mut 0 (by omega) hx.1.2.1
  have hr2c : 0 ≤ f 2 ∧ f 2 ≤ 8 := by rw [hP.2.1.1]; exact hx.2.2.2.1
  obtain ⟨ta, ra, hga⟩ : ∃ t r, (t, r) = gAcc m (sc E (I + 1)) := ⟨_, _, rfl⟩
  have hA := A_account ok hz (x := (sc E (I + 1)))
  rw [← hga] at hA
  have hta := An_rng hA
  have ha2 : ta ≠ 2 := by
    have h9 : ta = (gAcc m (sc E (I + 1))).1 := congrArg Prod.fst hga
    rw [h9]; exact n2_acc
  refine g_aload_n (n := 1) (i := 1) rfl rfl d_L_law_1805 ?_
  refine g_aload_n (n := 0) (i := 0) rfl rfl d_L_law_1806 ?_
  refine g_iload (i := 5) rfl d_L_law_1807 ?_
  refine g_iconst_i d_L_law_1809 ?_
  refine g_iadd_i d_L_law_1810 ?_
  refine g_sldI (k := 1) rfl (by omega) hL d_L_law_1811 ?_
  refine g_aload_n (n := 3) (i := 3) rfl rfl d_L_law_1812 ?_
  refine g_callW3 rfl rfl e_L_account l_L_214 st_L_account (by decide) (by omega) (by omega) (Nat.le_of_ble_eq_true rfl) d_L_law_1813 (c_L_account hx sc_rng hA ha2 h68 (fun w1 im1 g1 hLX h681 h69k hval => ?_))
  refine g_retn ?_
  obtain ⟨hm1, u41, u51, u61, u71⟩ := hCp.mid hLX
  have k2 : g_cell E w1 im1 (gad E 62) _ := g_mut 62 (by omega) hm1.2.1
  have h691 : w1 69 = dbE gd := (h69k 69 rfl).trans hgd
  refine g_istore (i := 6) (by decide) rfl d_L_law_1816 ?_
  refine g_aload_n (n := 2) (i := 2) rfl rfl d_L_law_1818 ?_
  refine g_aload_n (n := 0) (i := 0) rfl rfl d_L_law_1819 ?_
  refine g_iload (i := 5) rfl d_L_law_1820 ?_
  refine g_iconst_i d_L_law_1822 ?_
  refine g_iadd_i d_L_law_1823 ?_
  refine g_sldI (k := 1) rfl (by omega) hL d_L_law_1824 ?_
  refine g_callV1 rfl rfl e_M_account l_L_216 iv_M_account 9 (by decide) rfl (by assumption) (by decide) (Nat.zero_le _) (Nat.zero_le _) (Nat.le_of_ble_eq_true rfl) d_L_law_1825 (c_M_account hm1 ok sc_rng (fun t9 r9 w2 he9 hM => ?_))
  refine g_ret ?_
  have e1 : t9 = ta := congrArg Prod.fst (he9.trans hga.symm)
  have e2 : r9 = ra := congrArg Prod.snd (he9.trans hga.symm)
  obtain ⟨f2, hC, ht2, h682, h692⟩ := hCp.read hLX h681 h691 hM
  have hC2 := hC.mono
  have ht2 : f2 6 = ta := ht2.trans e1
  have hr2 : ta = 0 → r9 = ra := fun _ => e2
  have k2 : g_cell E w2 im1 (gad E 62) _ := g_mut 62 (by omega) hC2.2.1.2.1
  refine g_istore (i := 7) (by decide) rfl d_L_law_1828 ?_
  refine g_aload_n (n := 2) (i := 2) rfl rfl d_L_law_1830 ?_
  refine g_callV0 rfl rfl e_M_thrown l_L_141 iv_M_thrown 9 (by decide) rfl (by assumption) (by decide) (Nat.zero_le _) (Nat.zero_le _) (Nat.le_of_ble_eq_true rfl) d_L_law_1831 (c_M_thrown hC2.2.1 ?_)
  refine g_ret ?_
  rw [ht2]
  refine g_iload (i := 6) rfl d_L_law_1834 ?_
  refine g_icmp_eq (tgt := 1841) d_L_law_1836 (by decide) (fun _ => ?_) (fun h => absurd rfl h)
  refine g_iload (i := 6) rfl d_L_law_1841 ?_
  refine g_if_ne_i (tgt := 1858) (by omega) d_L_law_1843 (by decide) (fun h1843 => ?_) (fun h1843 => ?_)
  · refine g_goto (tgt := 2306) (by decide) d_L_law_1858 ?_
    exact g_cut (lv' := [(0, .ref (gX E).1), (1, .ref (gad E 0)), (2, .ref (gad E 62)), (3, .ref (gad E 68)), (4, .ref (gad E 69)), (5, .int (iI (I : Int)))]) ⟨rfl, rfl, rfl, rfl, rfl, rfl, trivial⟩ (hN _ _ _ _ _ _ _ _ _ hC2 (by omega) (by omega))
  · refine g_aload_n (n := 3) (i := 3) rfl rfl d_L_law_1846 ?_
    refine g_iconst_i d_L_law_1847 ?_
    have h0 : ta = 0 := by omega
    refine g_laload (j := 0) (f := g1) (g_mut 68 (by omega) h682) (iI_nI 0).symm (by decide) (by rfl) d_L_law_1848 ?_
    refine g_iload (i := 7) rfl d_L_law_1849 ?_
    refine g_i2l d_L_law_1851 ?_
    refine g_lcmp d_L_law_1852 ?_
    rw [hval h0, ← hr2 h0, lgc]
    refine g_if_eq_i (tgt := 1858) (by decide) d_L_law_1853 (by decide) (fun h1853 => ?_) (fun h => absurd h (by decide))
    refine g_goto (tgt := 2306) (by decide) d_L_law_1858 ?_
    exact g_cut (lv' := [(0, .ref (gX E).1), (1, .ref (gad E 0)), (2, .ref (gad E 62)), (3, .ref (gad E 68)), (4, .ref (gad E 69)), (5, .int (iI (I : Int)))]) ⟨rfl, rfl, rfl, rfl, rfl, rfl, trivial⟩ (hN _ _ _ _ _ _ _ _ _ hC2 (by omega) (by omega))

theorem op_15 {E : gE} {w : gW} {im : gIm} {Q : gQ} {c : CSt} {f : Nat → Int} {m pa sv : Int → Int} {n : Int} {I kc ks : Nat} (hL : (gX E).2.1 ≤ 3584) (hI : I + 7 ≤ (gX E).2.1) (hn6 : n < 600) (hkc : 541 ≤ kc) (hks : 3246 ≤ ks) (hCp : Cp E w im c f m pa sv n) (hN : ∀ w' im' c' f' m' pa' sv' kc' ks', Cp E w' im' c' f' m' pa' sv' (n + 1) → kc ≤ kc' + 541 → ks ≤ ks' + 3246 → G E 8 m_L_law 2306 [(0, .ref (gX E).1), (1, .ref (gad E 0)), (2, .ref (gad E 62)), (3, .ref (gad E 68)), (4, .ref (gad E 69)), (5, .int (iI (I : Int)))] [] w' im' kc' ks' Q) : G E 8 m_L_law 1197 [(0, .ref (gX E).1), (1, .ref (gad E 0)), (2, .ref (gad E 62)), (3, .ref (gad E 68)), (4, .ref (gad E 69)), (5, .int (iI (I : Int)))] [] w im kc ks Q := by
  obtain ⟨hx, hm, u4, u5, u6, u7, ⟨g0, h68⟩, ⟨gd, hgd⟩, hP⟩ := id hCp
  have hR := hP.1
  obtain ⟨ok, hz, h4⟩ := id hR
  have oz := hx.2.1.1.okz
  have hgn : gN E = 70 := hm.1
  have k0 : g_cell E w im (gad E 0) _ := g_mut 0 (by omega) hx.1.2.1
  have hr2c : 0 ≤ f 2 ∧ f 2 ≤ 8 := by rw [hP.2.1.1]; exact hx.2.2.2.1
  obtain ⟨ta, ra, hga⟩ : ∃ t r, (t, r) = gRfs (f 7) (sc E (I + 1)) := ⟨_, _, rfl⟩
  have hA := A_refusal (x := (sc E (I + 1))) hP.2.2.2.1.2
  rw [← hga] at hA
  rw [hP.2.2.2.1.1] at hA
  have hta := An_rng hA
  refine g_aload_n (n := 1) (i := 1) rfl rfl d_L_law_1197 ?_
  refine g_aload_n (n := 0) (i := 0) rfl rfl d_L_law_1198 ?_
  refine g_iload (i := 5) rfl d_L_law_1199 ?_
  refine g_iconst_i d_L_law_1201 ?_
  refine g_iadd_i d_L_law_1202 ?_
  refine g_sldI (k := 1) rfl (by omega) hL d_L_law_1203 ?_
  refine g_aload_n (n := 3) (i := 3) rfl rfl d_L_law_1204 ?_
  refine g_callW3 rfl rfl e_L_refusal l_L_186 st_L_refusal (by decide) (by omega) (by omega) (Nat.le_of_ble_eq_true rfl) d_L_law_1205 (c_L_refusal hx sc_rng hA h68 (fun w1 im1 g1 hLX h681 h69k hval => ?_))
  refine g_retn ?_
  obtain ⟨hm1, u41, u51, u61, u71⟩ := hCp.mid hLX
  have k2 : g_cell E w1 im1 (gad E 62) _ := g_mut 62 (by omega) hm1.2.1
  have h691 : w1 69 = dbE gd := (h69k 69 rfl).trans hgd
  refine g_istore (i := 6) (by decide) rfl d_L_law_1208 ?_
  refine g_aload_n (n := 2) (i := 2) rfl rfl d_L_law_1210 ?_
  refine g_aload_n (n := 0) (i := 0) rfl rfl d_L_law_1211 ?_
  refine g_iload (i := 5) rfl d_L_law_1212 ?_
  refine g_iconst_i d_L_law_1214 ?_
  refine g_iadd_i d_L_law_1215 ?_
  refine g_sldI (k := 1) rfl (by omega) hL d_L_law_1216 ?_
  refine g_callV1 rfl rfl e_M_refusal l_L_188 iv_M_refusal 9 (by decide) rfl (by assumption) (by decide) (Nat.zero_le _) (Nat.zero_le _) (Nat.le_of_ble_eq_true rfl) d_L_law_1217 (c_M_refusal hm1 sc_rng (by rw [hP.2.2.2.1.1]; exact hx.2.2.2.2.1.2.1) (fun t9 r9 w2 he9 hM => ?_))
  refine g_ret ?_
  have e1 : t9 = ta := congrArg Prod.fst (he9.trans hga.symm)
  have e2 : r9 = ra := congrArg Prod.snd (he9.trans hga.symm)
  obtain ⟨f2, hC, ht2, h682, h692⟩ := hCp.read hLX h681 h691 hM
  have hC2 := hC.mono
  have ht2 : f2 6 = ta := ht2.trans e1
  have hr2 : ta = 0 → r9 = ra := fun _ => e2
  have k2 : g_cell E w2 im1 (gad E 62) _ := g_mut 62 (by omega) hC2.2.1.2.1
  refine g_istore (i := 7) (by decide) rfl d_L_law_1220 ?_
  refine g_aload_n (n := 2) (i := 2) rfl rfl d_L_law_1222 ?_
  refine g_callV0 rfl rfl e_M_thrown l_L_141 iv_M_thrown 9 (by decide) rfl (by assumption) (by decide) (Nat.zero_le _) (Nat.zero_le _) (Nat.le_of_ble_eq_true rfl) d_L_law_1223 (c_M_thrown hC2.2.1 ?_)
  refine g_ret ?_
  rw [ht2]
  refine g_iload (i := 6) rfl d_L_law_1226 ?_
  refine g_icmp_eq (tgt := 1233) d_L_law_1228 (by decide) (fun _ => ?_) (fun h => absurd rfl h)
  refine g_iload (i := 6) rfl d_L_law_1233 ?_
  refine g_if_ne_i (tgt := 1250) (by omega) d_L_law_1235 (by decide) (fun h1235 => ?_) (fun h1235 => ?_)
  · refine g_goto (tgt := 2306) (by decide) d_L_law_1250 ?_
    exact g_cut (lv' := [(0, .ref (gX E).1), (1, .ref (gad E 0)), (2, .ref (gad E 62)), (3, .ref (gad E 68)), (4, .ref (gad E 69)), (5, .int (iI (I : Int)))]) ⟨rfl, rfl, rfl, rfl, rfl, rfl, trivial⟩ (hN _ _ _ _ _ _ _ _ _ hC2 (by omega) (by omega))
  · refine g_aload_n (n := 3) (i := 3) rfl rfl d_L_law_1238 ?_
    refine g_iconst_i d_L_law_1239 ?_
    have h0 : ta = 0 := by omega
    refine g_laload (j := 0) (f := g1) (g_mut 68 (by omega) h682) (iI_nI 0).symm (by decide) (by rfl) d_L_law_1240 ?_
    refine g_iload (i := 7) rfl d_L_law_1241 ?_
    refine g_i2l d_L_law_1243 ?_
    refine g_lcmp d_L_law_1244 ?_
    rw [hval h0, ← hr2 h0, lgc]
    refine g_if_eq_i (tgt := 1250) (by decide) d_L_law_1245 (by decide) (fun h1245 => ?_) (fun h => absurd h (by decide))
    refine g_goto (tgt := 2306) (by decide) d_L_law_1250 ?_
    exact g_cut (lv' := [(0, .ref (gX E).1), (1, .ref (gad E 0)), (2, .ref (gad E 62)), (3, .ref (gad E 68)), (4, .ref (gad E 69)), (5, .int (iI (I : Int)))]) ⟨rfl, rfl, rfl, rfl, rfl, rfl, trivial⟩ (hN _ _ _ _ _ _ _ _ _ hC2 (by omega) (by omega))

theorem op_30 {E : gE} {w : gW} {im : gIm} {Q : gQ} {c : CSt} {f : Nat → Int} {m pa sv : Int → Int} {n : Int} {I kc ks : Nat} (hL : (gX E).2.1 ≤ 3584) (hI : I + 7 ≤ (gX E).2.1) (hn6 : n < 600) (hkc : 541 ≤ kc) (hks : 3246 ≤ ks) (hCp : Cp E w im c f m pa sv n) (hN : ∀ w' im' c' f' m' pa' sv' kc' ks', Cp E w' im' c' f' m' pa' sv' (n + 1) → kc ≤ kc' + 541 → ks ≤ ks' + 3246 → G E 8 m_L_law 2306 [(0, .ref (gX E).1), (1, .ref (gad E 0)), (2, .ref (gad E 62)), (3, .ref (gad E 68)), (4, .ref (gad E 69)), (5, .int (iI (I : Int)))] [] w' im' kc' ks' Q) : G E 8 m_L_law 2117 [(0, .ref (gX E).1), (1, .ref (gad E 0)), (2, .ref (gad E 62)), (3, .ref (gad E 68)), (4, .ref (gad E 69)), (5, .int (iI (I : Int)))] [] w im kc ks Q := by
  obtain ⟨hx, hm, u4, u5, u6, u7, ⟨g0, h68⟩, ⟨gd, hgd⟩, hP⟩ := id hCp
  have hR := hP.1
  obtain ⟨ok, hz, h4⟩ := id hR
  have oz := hx.2.1.1.okz
  have hgn : gN E = 70 := hm.1
  have k0 : g_cell E w im (gad E 0) _ := g_mut 0 (by omega) hx.1.2.1
  have hr2c : 0 ≤ f 2 ∧ f 2 ≤ 8 := by rw [hP.2.1.1]; exact hx.2.2.2.1
  obtain ⟨ta, ra, hga⟩ : ∃ t r, (t, r) = gNum (f 8)  := ⟨_, _, rfl⟩
  have hA := A_num (x := f 8)
  rw [← hga] at hA
  rw [hP.2.2.2.2.1] at hA
  have hta := An_rng hA
  have ha2 : ta ≠ 2 := by
    have h9 : ta = (gNum (f 8) ).1 := congrArg Prod.fst hga
    rw [h9]; exact n2_num
  refine g_aload_n (n := 1) (i := 1) rfl rfl d_L_law_2117 ?_
  refine g_aload_n (n := 3) (i := 3) rfl rfl d_L_law_2118 ?_
  refine g_callW2 rfl rfl e_L_errorPosition l_L_237 st_L_errorPosition (by decide) (by omega) (by omega) (Nat.le_of_ble_eq_true rfl) d_L_law_2119 (c_L_errorPosition hx  hA ha2 h68 (fun w1 im1 g1 hLX h681 h69k hval => ?_))
  refine g_retn ?_
  obtain ⟨hm1, u41, u51, u61, u71⟩ := hCp.mid hLX
  have k2 : g_cell E w1 im1 (gad E 62) _ := g_mut 62 (by omega) hm1.2.1
  have h691 : w1 69 = dbE gd := (h69k 69 rfl).trans hgd
  refine g_istore (i := 6) (by decide) rfl d_L_law_2122 ?_
  refine g_aload_n (n := 2) (i := 2) rfl rfl d_L_law_2124 ?_
  refine g_callV0 rfl rfl e_M_errorPosition l_L_239 iv_M_errorPosition 9 (by decide) rfl (by assumption) (by decide) (Nat.zero_le _) (Nat.zero_le _) (Nat.le_of_ble_eq_true rfl) d_L_law_2125 (c_M_errorPosition hm1 (by rw [hP.2.2.2.2.1]; exact hx.2.2.2.2.1.2.2.1) (fun t9 r9 w2 he9 hM => ?_))
  refine g_ret ?_
  have e1 : t9 = ta := congrArg Prod.fst (he9.trans hga.symm)
  have e2 : r9 = ra := congrArg Prod.snd (he9.trans hga.symm)
  obtain ⟨f2, hC, ht2, h682, h692⟩ := hCp.read hLX h681 h691 hM
  have hC2 := hC.mono
  have ht2 : f2 6 = ta := ht2.trans e1
  have hr2 : ta = 0 → r9 = ra := fun _ => e2
  have k2 : g_cell E w2 im1 (gad E 62) _ := g_mut 62 (by omega) hC2.2.1.2.1
  refine g_istore (i := 7) (by decide) rfl d_L_law_2128 ?_
  refine g_aload_n (n := 2) (i := 2) rfl rfl d_L_law_2130 ?_
  refine g_callV0 rfl rfl e_M_thrown l_L_141 iv_M_thrown 9 (by decide) rfl (by assumption) (by decide) (Nat.zero_le _) (Nat.zero_le _) (Nat.le_of_ble_eq_true rfl) d_L_law_2131 (c_M_thrown hC2.2.1 ?_)
  refine g_ret ?_
  rw [ht2]
  refine g_iload (i := 6) rfl d_L_law_2134 ?_
  refine g_icmp_eq (tgt := 2141) d_L_law_2136 (by decide) (fun _ => ?_) (fun h => absurd rfl h)
  refine g_iload (i := 6) rfl d_L_law_2141 ?_
  refine g_if_ne_i (tgt := 2158) (by omega) d_L_law_2143 (by decide) (fun h2143 => ?_) (fun h2143 => ?_)
  · refine g_goto (tgt := 2306) (by decide) d_L_law_2158 ?_
    exact g_cut (lv' := [(0, .ref (gX E).1), (1, .ref (gad E 0)), (2, .ref (gad E 62)), (3, .ref (gad E 68)), (4, .ref (gad E 69)), (5, .int (iI (I : Int)))]) ⟨rfl, rfl, rfl, rfl, rfl, rfl, trivial⟩ (hN _ _ _ _ _ _ _ _ _ hC2 (by omega) (by omega))
  · refine g_aload_n (n := 3) (i := 3) rfl rfl d_L_law_2146 ?_
    refine g_iconst_i d_L_law_2147 ?_
    have h0 : ta = 0 := by omega
    refine g_laload (j := 0) (f := g1) (g_mut 68 (by omega) h682) (iI_nI 0).symm (by decide) (by rfl) d_L_law_2148 ?_
    refine g_iload (i := 7) rfl d_L_law_2149 ?_
    refine g_i2l d_L_law_2151 ?_
    refine g_lcmp d_L_law_2152 ?_
    rw [hval h0, ← hr2 h0, lgc]
    refine g_if_eq_i (tgt := 2158) (by decide) d_L_law_2153 (by decide) (fun h2153 => ?_) (fun h => absurd h (by decide))
    refine g_goto (tgt := 2306) (by decide) d_L_law_2158 ?_
    exact g_cut (lv' := [(0, .ref (gX E).1), (1, .ref (gad E 0)), (2, .ref (gad E 62)), (3, .ref (gad E 68)), (4, .ref (gad E 69)), (5, .int (iI (I : Int)))]) ⟨rfl, rfl, rfl, rfl, rfl, rfl, trivial⟩ (hN _ _ _ _ _ _ _ _ _ hC2 (by omega) (by omega))

theorem op_31 {E : gE} {w : gW} {im : gIm} {Q : gQ} {c : CSt} {f : Nat → Int} {m pa sv : Int → Int} {n : Int} {I kc ks : Nat} (hL : (gX E).2.1 ≤ 3584) (hI : I + 7 ≤ (gX E).2.1) (hn6 : n < 600) (hkc : 541 ≤ kc) (hks : 3246 ≤ ks) (hCp : Cp E w im c f m pa sv n) (hN : ∀ w' im' c' f' m' pa' sv' kc' ks', Cp E w' im' c' f' m' pa' sv' (n + 1) → kc ≤ kc' + 541 → ks ≤ ks' + 3246 → G E 8 m_L_law 2306 [(0, .ref (gX E).1), (1, .ref (gad E 0)), (2, .ref (gad E 62)), (3, .ref (gad E 68)), (4, .ref (gad E 69)), (5, .int (iI (I : Int)))] [] w' im' kc' ks' Q) : G E 8 m_L_law 2161 [(0, .ref (gX E).1), (1, .ref (gad E 0)), (2, .ref (gad E 62)), (3, .ref (gad E 68)), (4, .ref (gad E 69)), (5, .int (iI (I : Int)))] [] w im kc ks Q := by
  obtain ⟨hx, hm, u4, u5, u6, u7, ⟨g0, h68⟩, ⟨gd, hgd⟩, hP⟩ := id hCp
  have hR := hP.1
  obtain ⟨ok, hz, h4⟩ := id hR
  have oz := hx.2.1.1.okz
  have hgn : gN E = 70 := hm.1
  have k0 : g_cell E w im (gad E 0) _ := g_mut 0 (by omega) hx.1.2.1
  have hr2c : 0 ≤ f 2 ∧ f 2 ≤ 8 := by rw [hP.2.1.1]; exact hx.2.2.2.1
  obtain ⟨ta, ra, hga⟩ : ∃ t r, (t, r) = gNum (f 9)  := ⟨_, _, rfl⟩
  have hA := A_num (x := f 9)
  rw [← hga] at hA
  rw [hP.2.2.2.2.2.1] at hA
  have hta := An_rng hA
  have ha2 : ta ≠ 2 := by
    have h9 : ta = (gNum (f 9) ).1 := congrArg Prod.fst hga
    rw [h9]; exact n2_num
  refine g_aload_n (n := 1) (i := 1) rfl rfl d_L_law_2161 ?_
  refine g_aload_n (n := 3) (i := 3) rfl rfl d_L_law_2162 ?_
  refine g_callW2 rfl rfl e_L_refusedOrder l_L_240 st_L_refusedOrder (by decide) (by omega) (by omega) (Nat.le_of_ble_eq_true rfl) d_L_law_2163 (c_L_refusedOrder hx  hA ha2 h68 (fun w1 im1 g1 hLX h681 h69k hval => ?_))
  refine g_retn ?_
  obtain ⟨hm1, u41, u51, u61, u71⟩ := hCp.mid hLX
  have k2 : g_cell E w1 im1 (gad E 62) _ := g_mut 62 (by omega) hm1.2.1
  have h691 : w1 69 = dbE gd := (h69k 69 rfl).trans hgd
  refine g_istore (i := 6) (by decide) rfl d_L_law_2166 ?_
  refine g_aload_n (n := 2) (i := 2) rfl rfl d_L_law_2168 ?_
  refine g_callV0 rfl rfl e_M_refusedOrder l_L_242 iv_M_refusedOrder 9 (by decide) rfl (by assumption) (by decide) (Nat.zero_le _) (Nat.zero_le _) (Nat.le_of_ble_eq_true rfl) d_L_law_2169 (c_M_refusedOrder hm1 (by rw [hP.2.2.2.2.2.1]; exact hx.2.2.2.2.1.2.2.2) (fun t9 r9 w2 he9 hM => ?_))
  refine g_ret ?_
  have e1 : t9 = ta := congrArg Prod.fst (he9.trans hga.symm)
  have e2 : r9 = ra := congrArg Prod.snd (he9.trans hga.symm)
  obtain ⟨f2, hC, ht2, h682, h692⟩ := hCp.read hLX h681 h691 hM
  have hC2 := hC.mono
  have ht2 : f2 6 = ta := ht2.trans e1
  have hr2 : ta = 0 → r9 = ra := fun _ => e2
  have k2 : g_cell E w2 im1 (gad E 62) _ := g_mut 62 (by omega) hC2.2.1.2.1
  refine g_istore (i := 7) (by decide) rfl d_L_law_2172 ?_
  refine g_aload_n (n := 2) (i := 2) rfl rfl d_L_law_2174 ?_
  refine g_callV0 rfl rfl e_M_thrown l_L_141 iv_M_thrown 9 (by decide) rfl (by assumption) (by decide) (Nat.zero_le _) (Nat.zero_le _) (Nat.le_of_ble_eq_true rfl) d_L_law_2175 (c_M_thrown hC2.2.1 ?_)
  refine g_ret ?_
  rw [ht2]
  refine g_iload (i := 6) rfl d_L_law_2178 ?_
  refine g_icmp_eq (tgt := 2185) d_L_law_2180 (by decide) (fun _ => ?_) (fun h => absurd rfl h)
  refine g_iload (i := 6) rfl d_L_law_2185 ?_
  refine g_if_ne_i (tgt := 2202) (by omega) d_L_law_2187 (by decide) (fun h2187 => ?_) (fun h2187 => ?_)
  · refine g_goto (tgt := 2306) (by decide) d_L_law_2202 ?_
    exact g_cut (lv' := [(0, .ref (gX E).1), (1, .ref (gad E 0)), (2, .ref (gad E 62)), (3, .ref (gad E 68)), (4, .ref (gad E 69)), (5, .int (iI (I : Int)))]) ⟨rfl, rfl, rfl, rfl, rfl, rfl, trivial⟩ (hN _ _ _ _ _ _ _ _ _ hC2 (by omega) (by omega))
  · refine g_aload_n (n := 3) (i := 3) rfl rfl d_L_law_2190 ?_
    refine g_iconst_i d_L_law_2191 ?_
    have h0 : ta = 0 := by omega
    refine g_laload (j := 0) (f := g1) (g_mut 68 (by omega) h682) (iI_nI 0).symm (by decide) (by rfl) d_L_law_2192 ?_
    refine g_iload (i := 7) rfl d_L_law_2193 ?_
    refine g_i2l d_L_law_2195 ?_
    refine g_lcmp d_L_law_2196 ?_
    rw [hval h0, ← hr2 h0, lgc]
    refine g_if_eq_i (tgt := 2202) (by decide) d_L_law_2197 (by decide) (fun h2197 => ?_) (fun h => absurd h (by decide))
    refine g_goto (tgt := 2306) (by decide) d_L_law_2202 ?_
    exact g_cut (lv' := [(0, .ref (gX E).1), (1, .ref (gad E 0)), (2, .ref (gad E 62)), (3, .ref (gad E 68)), (4, .ref (gad E 69)), (5, .int (iI (I : Int)))]) ⟨rfl, rfl, rfl, rfl, rfl, rfl, trivial⟩ (hN _ _ _ _ _ _ _ _ _ hC2 (by omega) (by omega))

