/-! ===== the law's loop ===== -/
theorem and63 (x : Int) : ∃ z : Int, (0 ≤ z ∧ z ≤ 63) ∧ iI x &&& iI 63 = iI z := by
  refine ⟨(iI x &&& iI 63).toInt, ?_, iI_of _⟩
  have h : (iI x &&& iI 63).toBitVec.toNat ≤ 63 := by
    rw [Int32.toBitVec_and, BitVec.toNat_and]
    exact Nat.le_trans Nat.and_le_right (by decide)
  have h2 : (iI x &&& iI 63).toInt = ((iI x &&& iI 63).toBitVec.toNat : Int) := BitVec.toInt_eq_toNat_of_lt (by omega)
  omega

theorem law_loop {E : gE} {P : gO → Prop} (hL : (gX E).2.1 ≤ 3584) (hP : P (.inl (some (.int (iI 1))))) : ∀ (fuel I : Nat) (n : Int) (w : gW) (im : gIm) (c : CSt) (f : Nat → Int) (m pa sv : Int → Int) (kc ks : Nat), (gX E).2.1 < I + 7 * fuel + 7 → I ≤ 100000 → n + fuel < 600 → 541 * fuel ≤ kc → 3246 * fuel ≤ ks → I + 7 * fuel ≤ 100000 → Cp E w im c f m pa sv n → G E 8 m_L_law 28 [(0, .ref (gX E).1), (1, .ref (gad E 0)), (2, .ref (gad E 62)), (3, .ref (gad E 68)), (4, .ref (gad E 69)), (5, .int (iI (I : Int)))] [] w im kc ks (fun o _ _ => P o) := by
  intro fuel
  induction fuel with
  | zero =>
    intro I n w im c f m pa sv kc ks hF hI9 hn6 hkc hks hI10 hCp
    have hgn : gN E = 70 := hCp.2.1.1
    refine g_iload (i := 5) rfl d_L_law_28 ?_
    refine g_aload_n (n := 0) (i := 0) rfl rfl d_L_law_30 ?_
    refine g_slen rfl d_L_law_31 ?_
    rw [iI_nI]
    refine g_bipush_i (by decide) d_L_law_32 ?_
    refine g_isub_i d_L_law_34 ?_
    refine g_icmp_gt_i (tgt := 2312) (by omega) (by omega) d_L_law_35 (by decide) (fun h35 => ?_) (fun h => by exfalso; omega)
    refine g_iconst_i d_L_law_2312 ?_
    refine g_ireturn_1 rfl d_L_law_2313 ?_
    exact hP
  | succ fuel ih =>
    intro I n w im c f m pa sv kc ks hF hI9 hn6 hkc hks hI10 hCp
    have hgn : gN E = 70 := hCp.2.1.1
    refine g_iload (i := 5) rfl d_L_law_28 ?_
    refine g_aload_n (n := 0) (i := 0) rfl rfl d_L_law_30 ?_
    refine g_slen rfl d_L_law_31 ?_
    rw [iI_nI]
    refine g_bipush_i (by decide) d_L_law_32 ?_
    refine g_isub_i d_L_law_34 ?_
    refine g_icmp_gt_i (tgt := 2312) (by omega) (by omega) d_L_law_35 (by decide) (fun h35 => ?_) (fun h35 => ?_)
    · refine g_iconst_i d_L_law_2312 ?_
      refine g_ireturn_1 rfl d_L_law_2313 ?_
      exact hP
    · refine g_aload_n (n := 0) (i := 0) rfl rfl d_L_law_38 ?_
      refine g_iload (i := 5) rfl d_L_law_39 ?_
      refine g_sldI (I := I) (k := 0) (by omega) (by omega) hL d_L_law_41 ?_
      refine g_bipush_i (by decide) d_L_law_42 ?_
      refine g_iand d_L_law_44 ?_
      obtain ⟨z9, hz9, e9⟩ := and63 (sc E (I + 0))
      rw [e9]
      have hI : I + 7 ≤ (gX E).2.1 := by omega
      have hN : ∀ w' im' c' f' m' pa' sv' kc' ks', Cp E w' im' c' f' m' pa' sv' (n + 1) → kc ≤ kc' + 541 → ks ≤ ks' + 3246 → G E 8 m_L_law 2306 [(0, .ref (gX E).1), (1, .ref (gad E 0)), (2, .ref (gad E 62)), (3, .ref (gad E 68)), (4, .ref (gad E 69)), (5, .int (iI (I : Int)))] [] w' im' kc' ks' (fun o _ _ => P o) := by
        intro w' im' c' f' m' pa' sv' kc' ks' hC h1 h2
        refine g_iinc_i (i := 5) rfl (by decide) rfl d_L_law_2306 ?_
        refine g_goto (tgt := 28) (by decide) d_L_law_2309 ?_
        exact g_cut (lv' := [(0, .ref (gX E).1), (1, .ref (gad E 0)), (2, .ref (gad E 62)), (3, .ref (gad E 68)), (4, .ref (gad E 69)), (5, .int (iI ((I + 7 : Nat) : Int)))]) ⟨rfl, rfl, rfl, rfl, rfl, rfl, trivial⟩ (ih (I + 7) (n + 1) w' im' c' f' m' pa' sv' kc' ks' (by omega) (by omega) (by omega) (by omega) (by omega) (by omega) hC)
      have hsw : z9 = 0 ∨ z9 = 1 ∨ z9 = 2 ∨ z9 = 3 ∨ z9 = 4 ∨ z9 = 5 ∨ z9 = 6 ∨ z9 = 7 ∨ z9 = 8 ∨ z9 = 9 ∨ z9 = 10 ∨ z9 = 11 ∨ z9 = 12 ∨ z9 = 13 ∨ z9 = 14 ∨ z9 = 15 ∨ z9 = 16 ∨ z9 = 17 ∨ z9 = 18 ∨ z9 = 19 ∨ z9 = 20 ∨ z9 = 21 ∨ z9 = 22 ∨ z9 = 23 ∨ z9 = 24 ∨ z9 = 25 ∨ z9 = 26 ∨ z9 = 27 ∨ z9 = 28 ∨ z9 = 29 ∨ z9 = 30 ∨ z9 = 31 ∨ z9 = 32 ∨ z9 = 33 ∨ z9 = 34 ∨ 34 < z9 := by omega
      rcases hsw with rfl | rfl | rfl | rfl | rfl | rfl | rfl | rfl | rfl | rfl | rfl | rfl | rfl | rfl | rfl | rfl | rfl | rfl | rfl | rfl | rfl | rfl | rfl | rfl | rfl | rfl | rfl | rfl | rfl | rfl | rfl | rfl | rfl | rfl | rfl | hsw
      · refine g_tableIn (off := 155) (tgt := 200) d_L_law_45 (by decide) (by decide) (by decide) (by decide) ?_
        exact op_0 hL hI (by omega) (by omega) (by omega) hCp hN
      · refine g_tableIn (off := 168) (tgt := 213) d_L_law_45 (by decide) (by decide) (by decide) (by decide) ?_
        exact op_1 hL hI (by omega) (by omega) (by omega) hCp hN
      · refine g_tableIn (off := 236) (tgt := 281) d_L_law_45 (by decide) (by decide) (by decide) (by decide) ?_
        exact op_2 hL hI (by omega) (by omega) (by omega) hCp hN
      · refine g_tableIn (off := 354) (tgt := 399) d_L_law_45 (by decide) (by decide) (by decide) (by decide) ?_
        exact op_3 hL hI (by omega) (by omega) (by omega) hCp hN
      · refine g_tableIn (off := 422) (tgt := 467) d_L_law_45 (by decide) (by decide) (by decide) (by decide) ?_
        exact op_4 hL hI (by omega) (by omega) (by omega) hCp hN
      · refine g_tableIn (off := 490) (tgt := 535) d_L_law_45 (by decide) (by decide) (by decide) (by decide) ?_
        exact op_5 hL hI (by omega) (by omega) (by omega) hCp hN
      · refine g_tableIn (off := 558) (tgt := 603) d_L_law_45 (by decide) (by decide) (by decide) (by decide) ?_
        exact op_6 hL hI (by omega) (by omega) (by omega) hCp hN
      · refine g_tableIn (off := 614) (tgt := 659) d_L_law_45 (by decide) (by decide) (by decide) (by decide) ?_
        exact op_7 hL hI (by omega) (by omega) (by omega) hCp hN
      · refine g_tableIn (off := 670) (tgt := 715) d_L_law_45 (by decide) (by decide) (by decide) (by decide) ?_
        exact op_8 hL hI (by omega) (by omega) (by omega) hCp hN
      · refine g_tableIn (off := 761) (tgt := 806) d_L_law_45 (by decide) (by decide) (by decide) (by decide) ?_
        exact op_9 hL hI (by omega) (by omega) (by omega) hCp hN
      · refine g_tableIn (off := 829) (tgt := 874) d_L_law_45 (by decide) (by decide) (by decide) (by decide) ?_
        exact op_10 hL hI (by omega) (by omega) (by omega) hCp hN
      · refine g_tableIn (off := 904) (tgt := 949) d_L_law_45 (by decide) (by decide) (by decide) (by decide) ?_
        exact op_11 hL hI (by omega) (by omega) (by omega) hCp hN
      · refine g_tableIn (off := 960) (tgt := 1005) d_L_law_45 (by decide) (by decide) (by decide) (by decide) ?_
        exact op_12 hL hI (by omega) (by omega) (by omega) hCp hN
      · refine g_tableIn (off := 1028) (tgt := 1073) d_L_law_45 (by decide) (by decide) (by decide) (by decide) ?_
        exact op_13 hL hI (by omega) (by omega) (by omega) hCp hN
      · refine g_tableIn (off := 1096) (tgt := 1141) d_L_law_45 (by decide) (by decide) (by decide) (by decide) ?_
        exact op_14 hL hI (by omega) (by omega) (by omega) hCp hN
      · refine g_tableIn (off := 1152) (tgt := 1197) d_L_law_45 (by decide) (by decide) (by decide) (by decide) ?_
        exact op_15 hL hI (by omega) (by omega) (by omega) hCp hN
      · refine g_tableIn (off := 1208) (tgt := 1253) d_L_law_45 (by decide) (by decide) (by decide) (by decide) ?_
        exact op_16 hL hI (by omega) (by omega) (by omega) hCp hN
      · refine g_tableIn (off := 1292) (tgt := 1337) d_L_law_45 (by decide) (by decide) (by decide) (by decide) ?_
        exact op_17 hL hI (by omega) (by omega) (by omega) hCp hN
      · refine g_tableIn (off := 1348) (tgt := 1393) d_L_law_45 (by decide) (by decide) (by decide) (by decide) ?_
        exact op_18 hL hI (by omega) (by omega) (by omega) hCp hN
      · refine g_tableIn (off := 1416) (tgt := 1461) d_L_law_45 (by decide) (by decide) (by decide) (by decide) ?_
        exact op_19 hL hI (by omega) (by omega) (by omega) hCp hN
      · refine g_tableIn (off := 1512) (tgt := 1557) d_L_law_45 (by decide) (by decide) (by decide) (by decide) ?_
        exact op_20 hL hI (by omega) (by omega) (by omega) hCp hN
      · refine g_tableIn (off := 1568) (tgt := 1613) d_L_law_45 (by decide) (by decide) (by decide) (by decide) ?_
        exact op_21 hL hI (by omega) (by omega) (by omega) hCp hN
      · refine g_tableIn (off := 1624) (tgt := 1669) d_L_law_45 (by decide) (by decide) (by decide) (by decide) ?_
        exact op_22 hL hI (by omega) (by omega) (by omega) hCp hN
      · refine g_tableIn (off := 1692) (tgt := 1737) d_L_law_45 (by decide) (by decide) (by decide) (by decide) ?_
        exact op_23 hL hI (by omega) (by omega) (by omega) hCp hN
      · refine g_tableIn (off := 1760) (tgt := 1805) d_L_law_45 (by decide) (by decide) (by decide) (by decide) ?_
        exact op_24 hL hI (by omega) (by omega) (by omega) hCp hN
      · refine g_tableIn (off := 1816) (tgt := 1861) d_L_law_45 (by decide) (by decide) (by decide) (by decide) ?_
        exact op_25 hL hI (by omega) (by omega) (by omega) hCp hN
      · refine g_tableIn (off := 1881) (tgt := 1926) d_L_law_45 (by decide) (by decide) (by decide) (by decide) ?_
        exact op_26 hL hI (by omega) (by omega) (by omega) hCp hN
      · refine g_tableIn (off := 1959) (tgt := 2004) d_L_law_45 (by decide) (by decide) (by decide) (by decide) ?_
        exact op_27 hL hI (by omega) (by omega) (by omega) hCp hN
      · refine g_tableIn (off := 1972) (tgt := 2017) d_L_law_45 (by decide) (by decide) (by decide) (by decide) ?_
        exact op_28 hL hI (by omega) (by omega) (by omega) hCp hN
      · refine g_tableIn (off := 2028) (tgt := 2073) d_L_law_45 (by decide) (by decide) (by decide) (by decide) ?_
        exact op_29 hL hI (by omega) (by omega) (by omega) hCp hN
      · refine g_tableIn (off := 2072) (tgt := 2117) d_L_law_45 (by decide) (by decide) (by decide) (by decide) ?_
        exact op_30 hL hI (by omega) (by omega) (by omega) hCp hN
      · refine g_tableIn (off := 2116) (tgt := 2161) d_L_law_45 (by decide) (by decide) (by decide) (by decide) ?_
        exact op_31 hL hI (by omega) (by omega) (by omega) hCp hN
      · refine g_tableIn (off := 2160) (tgt := 2205) d_L_law_45 (by decide) (by decide) (by decide) (by decide) ?_
        exact op_32 hL hI (by omega) (by omega) (by omega) hCp hN
      · refine g_tableIn (off := 2204) (tgt := 2249) d_L_law_45 (by decide) (by decide) (by decide) (by decide) ?_
        exact op_33 hL hI (by omega) (by omega) (by omega) hCp hN
      · refine g_tableIn (off := 2217) (tgt := 2262) d_L_law_45 (by decide) (by decide) (by decide) (by decide) ?_
        exact op_34 hL hI (by omega) (by omega) (by omega) hCp hN
      · refine g_tableOut (tgt := 2306) d_L_law_45 (by rw [iI_toInt (by omega)]; exact Or.inr hsw) (by decide) ?_
        exact hN _ _ _ _ _ _ _ _ _ hCp.mono (by omega) (by omega)

