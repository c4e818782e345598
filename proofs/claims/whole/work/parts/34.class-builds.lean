/-! ===== isConsistent; constructors ===== -/

theorem c_X_isConsistent {E : gE} {w : gW} {im : gIm} {Q : gQ} {c : CSt} (hx : XW E w im c) (hQ : ∀ o w' im', ((okCon (cN c) ∧ o = oV 1) ∨ (¬ okCon (cN c) ∧ o = oV 0)) → XN E w im c w' im' → Q (o) w' im') : GM E 4 y_X_isConsistent m_X_isConsistent 0 0 [.ref (gad E 0)] w im Q := by
  have hx9 := hx
  obtain ⟨⟨hn, x0, x1, x2, x3, x4, x5, m61, x6⟩, ⟨r1, r2, r3⟩, o1, o2, o3, o4⟩ := hx9
  have k0 : g_cell E w im (gad E 0) _ := g_mut 0 (by omega) x0
  have k1 : g_cell E w im (gad E 56) _ := g_mut 56 (by omega) x1
  have k2 : g_cell E w im (gad E 57) _ := g_mut 57 (by omega) x2
  have k3 : g_cell E w im (gad E 58) _ := g_mut 58 (by omega) x3
  have k4 : g_cell E w im (gad E 59) _ := g_mut 59 (by omega) x4
  have k5 : g_cell E w im (gad E 60) _ := g_mut 60 (by omega) x5
  have k6 : g_cell E w im (gad E 61) _ := g_mut 61 (by omega) x6
  have kn := r1.cell
  have kk := r2.cell
  have hz := r1
  have hz9 := hz
  obtain ⟨rg, rp, rc, lc, ⟨hb, h0, h1, h2, h3, h4, hlc⟩, ⟨i1, i2, i3, i4, i5, i6⟩, ok⟩ := hz9
  obtain ⟨ok1, ok2, ok3, ok4, ok5, ok6, ok7, ok8, ok9⟩ := ok
  have co : g_cell E w im (gad E 1) (resE E 1 (cN c)) := g_mut 1 (by omega) h0
  have cg : g_cell E w im (gad E (1 + 1)) (rowE 4 12 rg) := g_mut (1 + 1) (by omega) h1
  have cp : g_cell E w im (gad E (1 + 2)) (rowE 5 8 rp) := g_mut (1 + 2) (by omega) h2
  have cc : g_cell E w im (gad E (1 + 3)) (rowE 6 20 rc) := g_mut (1 + 3) (by omega) h3
  have cl : g_cell E w im (gad E (1 + 4)) (intE 372 lc) := g_mut (1 + 4) (by omega) h4
  refine g_enter (by decide) rfl rfl (fun h => by first | rfl | cases h) (Nat.le_of_ble_eq_true rfl) rfl ?_
  refine g_aload_n (n := 0) (i := 0) rfl rfl d_X_isConsistent_0 ?_
  refine g_getfield 0 0 f_X_12 (by assumption) (by rfl) d_X_isConsistent_1 ?_
  refine g_callV0 rfl rfl e_R_allPrices l_X_361 iv_R_allPrices 1 (by decide) rfl (by assumption) (by decide) (Nat.zero_le _) (Nat.zero_le _) (Nat.le_of_ble_eq_true rfl) d_X_isConsistent_4 (c_R_allPrices (by assumption) ?_)
  refine g_ret ?_
  refine g_aload_n (n := 0) (i := 0) rfl rfl d_X_isConsistent_7 ?_
  refine g_getfield 0 0 f_X_12 (by assumption) (by rfl) d_X_isConsistent_8 ?_
  refine g_callV0 rfl rfl e_R_allRefunds l_X_364 iv_R_allRefunds 1 (by decide) rfl (by assumption) (by decide) (Nat.zero_le _) (Nat.zero_le _) (Nat.le_of_ble_eq_true rfl) d_X_isConsistent_11 (c_R_allRefunds (by assumption) ?_)
  refine g_ret ?_
  refine g_aload_n (n := 0) (i := 0) rfl rfl d_X_isConsistent_14 ?_
  refine g_callV0 rfl rfl e_X_allShares l_X_367 iv_X_allShares 0 (by decide) rfl (by assumption) (by decide) (Nat.zero_le _) (Nat.zero_le _) (Nat.le_of_ble_eq_true rfl) d_X_isConsistent_15 (c_X_allShares hx (fun w im hN => ?_))
  refine g_ret ?_
  have hx := hN.2.2
  have hx9 := hx
  obtain ⟨⟨hn, x0, x1, x2, x3, x4, x5, m61, x6⟩, ⟨r1, r2, r3⟩, o1, o2, o3, o4⟩ := hx9
  have k0 : g_cell E w im (gad E 0) _ := g_mut 0 (by omega) x0
  have k1 : g_cell E w im (gad E 56) _ := g_mut 56 (by omega) x1
  have k2 : g_cell E w im (gad E 57) _ := g_mut 57 (by omega) x2
  have k3 : g_cell E w im (gad E 58) _ := g_mut 58 (by omega) x3
  have k4 : g_cell E w im (gad E 59) _ := g_mut 59 (by omega) x4
  have k5 : g_cell E w im (gad E 60) _ := g_mut 60 (by omega) x5
  have k6 : g_cell E w im (gad E 61) _ := g_mut 61 (by omega) x6
  have kn := r1.cell
  have kk := r2.cell
  have hz := r1
  have hz9 := hz
  obtain ⟨rg, rp, rc, lc, ⟨hb, h0, h1, h2, h3, h4, hlc⟩, ⟨i1, i2, i3, i4, i5, i6⟩, ok⟩ := hz9
  obtain ⟨ok1, ok2, ok3, ok4, ok5, ok6, ok7, ok8, ok9⟩ := ok
  have co : g_cell E w im (gad E 1) (resE E 1 (cN c)) := g_mut 1 (by omega) h0
  have cg : g_cell E w im (gad E (1 + 1)) (rowE 4 12 rg) := g_mut (1 + 1) (by omega) h1
  have cp : g_cell E w im (gad E (1 + 2)) (rowE 5 8 rp) := g_mut (1 + 2) (by omega) h2
  have cc : g_cell E w im (gad E (1 + 3)) (rowE 6 20 rc) := g_mut (1 + 3) (by omega) h3
  have cl : g_cell E w im (gad E (1 + 4)) (intE 372 lc) := g_mut (1 + 4) (by omega) h4
  refine g_iadd_i d_X_isConsistent_18 ?_
  refine g_aload_n (n := 0) (i := 0) rfl rfl d_X_isConsistent_19 ?_
  refine g_getfield 0 0 f_X_12 (by assumption) (by rfl) d_X_isConsistent_20 ?_
  refine g_callV0 rfl rfl e_R_allIdle l_X_370 iv_R_allIdle 1 (by decide) rfl (by assumption) (by decide) (Nat.zero_le _) (Nat.zero_le _) (Nat.le_of_ble_eq_true rfl) d_X_isConsistent_23 (c_R_allIdle (by assumption) ?_)
  refine g_ret ?_
  refine g_iadd_i d_X_isConsistent_26 ?_
  refine g_icmp_ne (tgt := 34) d_X_isConsistent_27 (by decide) (fun h27 => ?_) (fun h27 => ?_)
  · refine g_iconst_i d_X_isConsistent_34 ?_
    refine g_istore_n (n := 1) (i := 1) rfl (by decide) rfl d_X_isConsistent_35 ?_
    refine g_aload_n (n := 0) (i := 0) rfl rfl d_X_isConsistent_36 ?_
    refine g_getfield 0 0 f_X_12 (by assumption) (by rfl) d_X_isConsistent_37 ?_
    refine g_callV0 rfl rfl e_R_ridesThroughAllGates l_X_391 iv_R_ridesThroughAllGates 1 (by decide) rfl (by assumption) (by decide) (Nat.zero_le _) (Nat.zero_le _) (Nat.le_of_ble_eq_true rfl) d_X_isConsistent_40 (c_R_ridesThroughAllGates (by assumption) ?_)
    refine g_ret ?_
    refine g_aload_n (n := 0) (i := 0) rfl rfl d_X_isConsistent_43 ?_
    refine g_getfield 0 0 f_X_12 (by assumption) (by rfl) d_X_isConsistent_44 ?_
    refine g_callV0 rfl rfl e_R_ridesOnAllCards l_X_193 iv_R_ridesOnAllCards 1 (by decide) rfl (by assumption) (by decide) (Nat.zero_le _) (Nat.zero_le _) (Nat.le_of_ble_eq_true rfl) d_X_isConsistent_47 (c_R_ridesOnAllCards (by assumption) ?_)
    refine g_ret ?_
    refine g_icmp_ne (tgt := 57) d_X_isConsistent_50 (by decide) (fun h50 => ?_) (fun h50 => ?_)
    · refine g_iconst_i d_X_isConsistent_57 ?_
      refine g_istore_n (n := 2) (i := 2) rfl (by decide) rfl d_X_isConsistent_58 ?_
      refine g_iload_n (n := 1) (i := 1) rfl rfl d_X_isConsistent_59 ?_
      refine g_if_eq_i (tgt := 81) (by decide) d_X_isConsistent_60 (by decide) (fun h60 => ?_) (fun h => absurd h (by decide))
      refine g_iconst_i d_X_isConsistent_81 ?_
      refine g_ireturn_0 rfl d_X_isConsistent_82 ?_
      first | exact hQ _ _ _ (Or.inl ⟨⟨h27, h50, hB⟩, rfl⟩) hN | exact hQ _ _ _ (Or.inr ⟨fun h => h27 h.1, rfl⟩) hN | exact hQ _ _ _ (Or.inr ⟨fun h => h50 h.2.1, rfl⟩) hN | exact hQ _ _ _ (Or.inr ⟨fun h => hB h.2.2, rfl⟩) hN
    · refine g_iconst_i d_X_isConsistent_53 ?_
      refine g_goto (tgt := 58) (by decide) d_X_isConsistent_54 ?_
      refine g_istore_n (n := 2) (i := 2) rfl (by decide) rfl d_X_isConsistent_58 ?_
      refine g_iload_n (n := 1) (i := 1) rfl rfl d_X_isConsistent_59 ?_
      refine g_if_eq_i (tgt := 81) (by decide) d_X_isConsistent_60 (by decide) (fun h60 => ?_) (fun h => absurd h (by decide))
      refine g_iconst_i d_X_isConsistent_81 ?_
      refine g_ireturn_0 rfl d_X_isConsistent_82 ?_
      first | exact hQ _ _ _ (Or.inl ⟨⟨h27, h50, hB⟩, rfl⟩) hN | exact hQ _ _ _ (Or.inr ⟨fun h => h27 h.1, rfl⟩) hN | exact hQ _ _ _ (Or.inr ⟨fun h => h50 h.2.1, rfl⟩) hN | exact hQ _ _ _ (Or.inr ⟨fun h => hB h.2.2, rfl⟩) hN
  · refine g_iconst_i d_X_isConsistent_30 ?_
    refine g_goto (tgt := 35) (by decide) d_X_isConsistent_31 ?_
    refine g_istore_n (n := 1) (i := 1) rfl (by decide) rfl d_X_isConsistent_35 ?_
    refine g_aload_n (n := 0) (i := 0) rfl rfl d_X_isConsistent_36 ?_
    refine g_getfield 0 0 f_X_12 (by assumption) (by rfl) d_X_isConsistent_37 ?_
    refine g_callV0 rfl rfl e_R_ridesThroughAllGates l_X_391 iv_R_ridesThroughAllGates 1 (by decide) rfl (by assumption) (by decide) (Nat.zero_le _) (Nat.zero_le _) (Nat.le_of_ble_eq_true rfl) d_X_isConsistent_40 (c_R_ridesThroughAllGates (by assumption) ?_)
    refine g_ret ?_
    refine g_aload_n (n := 0) (i := 0) rfl rfl d_X_isConsistent_43 ?_
    refine g_getfield 0 0 f_X_12 (by assumption) (by rfl) d_X_isConsistent_44 ?_
    refine g_callV0 rfl rfl e_R_ridesOnAllCards l_X_193 iv_R_ridesOnAllCards 1 (by decide) rfl (by assumption) (by decide) (Nat.zero_le _) (Nat.zero_le _) (Nat.le_of_ble_eq_true rfl) d_X_isConsistent_47 (c_R_ridesOnAllCards (by assumption) ?_)
    refine g_ret ?_
    refine g_icmp_ne (tgt := 57) d_X_isConsistent_50 (by decide) (fun h50 => ?_) (fun h50 => ?_)
    · refine g_iconst_i d_X_isConsistent_57 ?_
      refine g_istore_n (n := 2) (i := 2) rfl (by decide) rfl d_X_isConsistent_58 ?_
      refine g_iload_n (n := 1) (i := 1) rfl rfl d_X_isConsistent_59 ?_
      refine g_if_eq_i (tgt := 81) (by decide) d_X_isConsistent_60 (by decide) (fun h => absurd h (by decide)) (fun h60 => ?_)
      refine g_iload_n (n := 2) (i := 2) rfl rfl d_X_isConsistent_63 ?_
      refine g_if_eq_i (tgt := 81) (by decide) d_X_isConsistent_64 (by decide) (fun h64 => ?_) (fun h => absurd h (by decide))
      refine g_iconst_i d_X_isConsistent_81 ?_
      refine g_ireturn_0 rfl d_X_isConsistent_82 ?_
      first | exact hQ _ _ _ (Or.inl ⟨⟨h27, h50, hB⟩, rfl⟩) hN | exact hQ _ _ _ (Or.inr ⟨fun h => h27 h.1, rfl⟩) hN | exact hQ _ _ _ (Or.inr ⟨fun h => h50 h.2.1, rfl⟩) hN | exact hQ _ _ _ (Or.inr ⟨fun h => hB h.2.2, rfl⟩) hN
    · refine g_iconst_i d_X_isConsistent_53 ?_
      refine g_goto (tgt := 58) (by decide) d_X_isConsistent_54 ?_
      refine g_istore_n (n := 2) (i := 2) rfl (by decide) rfl d_X_isConsistent_58 ?_
      refine g_iload_n (n := 1) (i := 1) rfl rfl d_X_isConsistent_59 ?_
      refine g_if_eq_i (tgt := 81) (by decide) d_X_isConsistent_60 (by decide) (fun h => absurd h (by decide)) (fun h60 => ?_)
      refine g_iload_n (n := 2) (i := 2) rfl rfl d_X_isConsistent_63 ?_
      refine g_if_eq_i (tgt := 81) (by decide) d_X_isConsistent_64 (by decide) (fun h => absurd h (by decide)) (fun h64 => ?_)
      refine g_aload_n (n := 0) (i := 0) rfl rfl d_X_isConsistent_67 ?_
      refine g_getfield 0 0 f_X_12 (by assumption) (by rfl) d_X_isConsistent_68 ?_
      refine g_callV0 rfl rfl e_R_keepsAllWays l_X_394 iv_R_keepsAllWays 1 (by decide) rfl (by assumption) (by decide) (Nat.zero_le _) (Nat.zero_le _) (Nat.le_of_ble_eq_true rfl) d_X_isConsistent_71 (c_R_keepsAllWays hz (fun hB => ?_) (fun hB => ?_))
      · refine g_ret ?_
        refine g_if_eq_i (tgt := 81) (by decide) d_X_isConsistent_74 (by decide) (fun h => absurd h (by decide)) (fun h74 => ?_)
        refine g_iconst_i d_X_isConsistent_77 ?_
        refine g_goto (tgt := 82) (by decide) d_X_isConsistent_78 ?_
        refine g_ireturn_1 rfl d_X_isConsistent_82 ?_
        first | exact hQ _ _ _ (Or.inl ⟨⟨h27, h50, hB⟩, rfl⟩) hN | exact hQ _ _ _ (Or.inr ⟨fun h => h27 h.1, rfl⟩) hN | exact hQ _ _ _ (Or.inr ⟨fun h => h50 h.2.1, rfl⟩) hN | exact hQ _ _ _ (Or.inr ⟨fun h => hB h.2.2, rfl⟩) hN
      · refine g_ret ?_
        refine g_if_eq_i (tgt := 81) (by decide) d_X_isConsistent_74 (by decide) (fun h74 => ?_) (fun h => absurd h (by decide))
        refine g_iconst_i d_X_isConsistent_81 ?_
        refine g_ireturn_0 rfl d_X_isConsistent_82 ?_
        first | exact hQ _ _ _ (Or.inl ⟨⟨h27, h50, hB⟩, rfl⟩) hN | exact hQ _ _ _ (Or.inr ⟨fun h => h27 h.1, rfl⟩) hN | exact hQ _ _ _ (Or.inr ⟨fun h => h50 h.2.1, rfl⟩) hN | exact hQ _ _ _ (Or.inr ⟨fun h => hB h.2.2, rfl⟩) hN

