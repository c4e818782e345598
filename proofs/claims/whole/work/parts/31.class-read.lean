/-! ===== a text is read ===== -/
abbrev cTR (c : CSt) (t : Tx) (R : Rz) : CSt := cSetN (cSetT c t) R

theorem c_X_firstRefusedOrder {E : gE} {w : gW} {im : gIm} {Q : gQ} {c : CSt} (hx : XW E w im c) (hQ : ∀ w' im', XN E w im (cTR c (frO (to' (cT c)).toNat 0 (tP (cT c) 0) (cN c)).2.1 (frO (to' (cT c)).toNat 0 (tP (cT c) 0) (cN c)).2.2) w' im' → Q (.inl (some (.int (iI (frO (to' (cT c)).toNat 0 (tP (cT c) 0) (cN c)).1)))) w' im') : GM E 5 y_X_firstRefusedOrder m_X_firstRefusedOrder 540 3240 [.ref (gad E 0)] w im Q := by
  have hx9 := hx
  obtain ⟨⟨hn, x0, x1, x2, x3, x4, x5, m61, x6⟩, ⟨r1, r2, r3⟩, o1, o2, o3, o4⟩ := hx9
  have k0 : g_cell E w im (gad E 0) _ := g_mut 0 (by omega) x0
  have k1 : g_cell E w im (gad E 56) _ := g_mut 56 (by omega) x1
  have k2 : g_cell E w im (gad E 57) _ := g_mut 57 (by omega) x2
  have k3 : g_cell E w im (gad E 58) _ := g_mut 58 (by omega) x3
  have k4 : g_cell E w im (gad E 59) _ := g_mut 59 (by omega) x4
  have k5 : g_cell E w im (gad E 60) _ := g_mut 60 (by omega) x5
  have k6 : g_cell E w im (gad E 61) _ := g_mut 61 (by omega) x6
  have kn := r1.cell
  have kk := r2.cell
  have loop : ∀ (n9 : Nat) (k9 : Int) (t1 : Tx) (R1 : Rz) (w1 : gW) (im1 : gIm) (kc ks : Nat), 0 ≤ k9 → k9 + n9 = to' (cT c) → XN E w im (cTR c t1 R1) w1 im1 → to' t1 = to' (cT c) → frO n9 k9 t1 R1 = frO (to' (cT c)).toNat 0 (tP (cT c) 0) (cN c) → 9 * n9 ≤ kc → 54 * n9 ≤ ks → G E 5 m_X_firstRefusedOrder 9 [(0, .ref (gad E 0)), (1, .int (iI k9))] [] w1 im1 kc ks Q := by
    intro n9
    have hto : 0 ≤ to' (cT c) ∧ to' (cT c) ≤ 60 := o4.2.2.1
    induction n9 with
    | zero =>
      intro k9 t1 R1 w im kc ks h9 hk9 hN hto1 he hk1 hk2
      have hx := hN.2.2
      have hx9 := hx
      obtain ⟨⟨hn, x0, x1, x2, x3, x4, x5, m61, x6⟩, ⟨r1, r2, r3⟩, o1, o2, o3, o4⟩ := hx9
      have k0 : g_cell E w im (gad E 0) _ := g_mut 0 (by omega) x0
      have k1 : g_cell E w im (gad E 56) _ := g_mut 56 (by omega) x1
      have k2 : g_cell E w im (gad E 57) _ := g_mut 57 (by omega) x2
      have k3 : g_cell E w im (gad E 58) _ := g_mut 58 (by omega) x3
      have k4 : g_cell E w im (gad E 59) _ := g_mut 59 (by omega) x4
      have k5 : g_cell E w im (gad E 60) _ := g_mut 60 (by omega) x5
      have k6 : g_cell E w im (gad E 61) _ := g_mut 61 (by omega) x6
      have kn := r1.cell
      have kk := r2.cell
      rw [frO] at he
      rw [← he] at hQ
      refine g_iload_n (n := 1) (i := 1) rfl rfl d_X_firstRefusedOrder_9 ?_
      refine g_aload_n (n := 0) (i := 0) rfl rfl d_X_firstRefusedOrder_10 ?_
      refine g_getfield 0 3 f_X_29 (by assumption) (by rfl) d_X_firstRefusedOrder_11 ?_
      refine g_getfield 3 3 f_X_424 (by assumption) (by rfl) d_X_firstRefusedOrder_14 ?_
      change G E 5 m_X_firstRefusedOrder 17 _ [.int (iI (to' t1)), .int (iI k9)] _ _ _ _ Q
      refine g_icmp_ge_i (tgt := 69) (by omega) (by omega) d_X_firstRefusedOrder_17 (by decide) (fun h17 => ?_) (fun h => by exfalso; omega)
      refine g_iconst_i d_X_firstRefusedOrder_69 ?_
      refine g_ireturn_i rfl d_X_firstRefusedOrder_70 ?_
      exact hQ _ _ hN
    | succ n9 ih =>
      intro k9 t1 R1 w im kc ks h9 hk9 hN hto1 he hk1 hk2
      have hx := hN.2.2
      have hx9 := hx
      obtain ⟨⟨hn, x0, x1, x2, x3, x4, x5, m61, x6⟩, ⟨r1, r2, r3⟩, o1, o2, o3, o4⟩ := hx9
      have k0 : g_cell E w im (gad E 0) _ := g_mut 0 (by omega) x0
      have k1 : g_cell E w im (gad E 56) _ := g_mut 56 (by omega) x1
      have k2 : g_cell E w im (gad E 57) _ := g_mut 57 (by omega) x2
      have k3 : g_cell E w im (gad E 58) _ := g_mut 58 (by omega) x3
      have k4 : g_cell E w im (gad E 59) _ := g_mut 59 (by omega) x4
      have k5 : g_cell E w im (gad E 60) _ := g_mut 60 (by omega) x5
      have k6 : g_cell E w im (gad E 61) _ := g_mut 61 (by omega) x6
      have kn := r1.cell
      have kk := r2.cell
      rw [frO] at he
      have hor := rdOrder_or (t := t1)
      refine g_iload_n (n := 1) (i := 1) rfl rfl d_X_firstRefusedOrder_9 ?_
      refine g_aload_n (n := 0) (i := 0) rfl rfl d_X_firstRefusedOrder_10 ?_
      refine g_getfield 0 3 f_X_29 (by assumption) (by rfl) d_X_firstRefusedOrder_11 ?_
      refine g_getfield 3 3 f_X_424 (by assumption) (by rfl) d_X_firstRefusedOrder_14 ?_
      change G E 5 m_X_firstRefusedOrder 17 _ [.int (iI (to' t1)), .int (iI k9)] _ _ _ _ Q
      refine g_icmp_ge_i (tgt := 69) (by omega) (by omega) d_X_firstRefusedOrder_17 (by decide) (fun h => by exfalso; omega) (fun h17 => ?_)
      refine g_aload_n (n := 0) (i := 0) rfl rfl d_X_firstRefusedOrder_20 ?_
      refine g_getfield 0 3 f_X_29 (by assumption) (by rfl) d_X_firstRefusedOrder_21 ?_
      refine g_callV0 rfl rfl e_T_takeOrder l_X_473 iv_T_takeOrder 3 (by decide) rfl (by assumption) (by decide) (Nat.zero_le _) (Nat.zero_le _) (Nat.le_of_ble_eq_true rfl) d_X_firstRefusedOrder_24 (c_T_takeOrder (t := t1) hx.tw (fun hB w hT => ?_) (fun hB w hT => ?_))
      · refine g_ret ?_
        have hN : XN E _ _ (cTR c (rdOrder t1).2 R1) w im := hN.trans (hx.sTN hT)
        have hx := hN.2.2
        have hx9 := hx
        obtain ⟨⟨hn, x0, x1, x2, x3, x4, x5, m61, x6⟩, ⟨r1, r2, r3⟩, o1, o2, o3, o4⟩ := hx9
        have k0 : g_cell E w im (gad E 0) _ := g_mut 0 (by omega) x0
        have k1 : g_cell E w im (gad E 56) _ := g_mut 56 (by omega) x1
        have k2 : g_cell E w im (gad E 57) _ := g_mut 57 (by omega) x2
        have k3 : g_cell E w im (gad E 58) _ := g_mut 58 (by omega) x3
        have k4 : g_cell E w im (gad E 59) _ := g_mut 59 (by omega) x4
        have k5 : g_cell E w im (gad E 60) _ := g_mut 60 (by omega) x5
        have k6 : g_cell E w im (gad E 61) _ := g_mut 61 (by omega) x6
        have kn := r1.cell
        have kk := r2.cell
        have ok2 : okT (rdOrder t1).2 := o4
        obtain ⟨z1, z2, z3, z4, z5, z6, z7⟩ := ok2
        rw [if_pos hB] at he
        refine g_if_eq_i (tgt := 51) (by decide) d_X_firstRefusedOrder_27 (by decide) (fun h => absurd h (by decide)) (fun h27 => ?_)
        refine g_aload_n (n := 0) (i := 0) rfl rfl d_X_firstRefusedOrder_30 ?_
        refine g_aload_n (n := 0) (i := 0) rfl rfl d_X_firstRefusedOrder_31 ?_
        refine g_getfield 0 3 f_X_29 (by assumption) (by rfl) d_X_firstRefusedOrder_32 ?_
        refine g_getfield 3 4 f_X_476 (by assumption) (by rfl) d_X_firstRefusedOrder_35 ?_
        refine g_aload_n (n := 0) (i := 0) rfl rfl d_X_firstRefusedOrder_38 ?_
        refine g_getfield 0 3 f_X_29 (by assumption) (by rfl) d_X_firstRefusedOrder_39 ?_
        refine g_getfield 3 5 f_X_480 (by assumption) (by rfl) d_X_firstRefusedOrder_42 ?_
        change G E 5 m_X_firstRefusedOrder 45 _ [.int (iI (tn (rdOrder t1).2)), .int (iI (tc (rdOrder t1).2)), .ref (gad E 0)] _ _ _ _ Q
        refine g_callV2 rfl rfl e_X_carriesOut l_X_481 iv_X_carriesOut 0 (by decide) rfl (by assumption) (by decide) (by omega) (by omega) (Nat.le_of_ble_eq_true rfl) d_X_firstRefusedOrder_45 (c_X_carriesOut (l := tc (rdOrder t1).2) (n := tn (rdOrder t1).2) hx z4 z5 z6.2 (fun R2 w im hD hN2 => ?_) (fun hD => ?_))
        · refine g_retn ?_
          have hD : ordZ R1 (tc (rdOrder t1).2) (tn (rdOrder t1).2) (tt (rdOrder t1).2) = (true, R2) := hD
          rw [hD] at he
          rw [if_pos (show ((true, R2) : Bool × Rz).1 = true from rfl)] at he
          have hN : XN E _ _ (cTR c (rdOrder t1).2 R2) w im := hN.trans hN2
          have hx := hN.2.2
          have hx9 := hx
          obtain ⟨⟨hn, x0, x1, x2, x3, x4, x5, m61, x6⟩, ⟨r1, r2, r3⟩, o1, o2, o3, o4⟩ := hx9
          have k0 : g_cell E w im (gad E 0) _ := g_mut 0 (by omega) x0
          have k1 : g_cell E w im (gad E 56) _ := g_mut 56 (by omega) x1
          have k2 : g_cell E w im (gad E 57) _ := g_mut 57 (by omega) x2
          have k3 : g_cell E w im (gad E 58) _ := g_mut 58 (by omega) x3
          have k4 : g_cell E w im (gad E 59) _ := g_mut 59 (by omega) x4
          have k5 : g_cell E w im (gad E 60) _ := g_mut 60 (by omega) x5
          have k6 : g_cell E w im (gad E 61) _ := g_mut 61 (by omega) x6
          have kn := r1.cell
          have kk := r2.cell
          refine g_if_ne_i (tgt := 53) (by decide) d_X_firstRefusedOrder_48 (by decide) (fun h48 => ?_) (fun h => absurd h (by decide))
          refine g_aload_n (n := 0) (i := 0) rfl rfl d_X_firstRefusedOrder_53 ?_
          refine g_getfield 0 3 f_X_29 (by assumption) (by rfl) d_X_firstRefusedOrder_54 ?_
          refine g_bipush_i (by decide) d_X_firstRefusedOrder_57 ?_
          refine g_callV1 rfl rfl e_T_skip l_X_485 iv_T_skip 3 (by decide) rfl (by assumption) (by decide) (Nat.zero_le _) (Nat.zero_le _) (Nat.le_of_ble_eq_true rfl) d_X_firstRefusedOrder_59 (c_T_skip (t := (rdOrder t1).2) hx.tw (by omega) (fun hS w hT => ?_) (fun hS w hT => ?_))
          · refine g_ret ?_
            have hN4 : XN E _ _ (cTR c (tSk (rdOrder t1).2) R2) w im := hN.trans (hx.sTN hT)
            refine g_pop rfl d_X_firstRefusedOrder_62 ?_
            refine g_iinc_i (i := 1) rfl (by decide) rfl d_X_firstRefusedOrder_63 ?_
            refine g_goto (tgt := 9) (by decide) d_X_firstRefusedOrder_66 ?_
            first
            | exact g_cut (lv' := [(0, .ref (gad E 0)), (1, .int (iI (k9 + 1)))]) ⟨rfl, rfl, trivial⟩ (ih (k9 + 1) _ _ w im _ _ (by omega) (by omega) hN4 (show to' (tSk (rdOrder t1).2) = to' (cT c) from hor.1.trans hto1) (by rw [if_pos hS] at he; exact he) (by omega) (by omega))
            | exact g_cut (lv' := [(0, .ref (gad E 0)), (1, .int (iI (k9 + 1)))]) ⟨rfl, rfl, trivial⟩ (ih (k9 + 1) _ _ w im _ _ (by omega) (by omega) hN4 (hor.1.trans hto1) (by rw [if_neg hS] at he; exact he) (by omega) (by omega))
          · refine g_ret ?_
            have hN4 : XN E _ _ (cTR c (rdOrder t1).2 R2) w im := hN.trans (hx.sTN hT)
            refine g_pop rfl d_X_firstRefusedOrder_62 ?_
            refine g_iinc_i (i := 1) rfl (by decide) rfl d_X_firstRefusedOrder_63 ?_
            refine g_goto (tgt := 9) (by decide) d_X_firstRefusedOrder_66 ?_
            first
            | exact g_cut (lv' := [(0, .ref (gad E 0)), (1, .int (iI (k9 + 1)))]) ⟨rfl, rfl, trivial⟩ (ih (k9 + 1) _ _ w im _ _ (by omega) (by omega) hN4 (show to' (tSk (rdOrder t1).2) = to' (cT c) from hor.1.trans hto1) (by rw [if_pos hS] at he; exact he) (by omega) (by omega))
            | exact g_cut (lv' := [(0, .ref (gad E 0)), (1, .int (iI (k9 + 1)))]) ⟨rfl, rfl, trivial⟩ (ih (k9 + 1) _ _ w im _ _ (by omega) (by omega) hN4 (hor.1.trans hto1) (by rw [if_neg hS] at he; exact he) (by omega) (by omega))
        · refine g_retn ?_
          have hD : ordZ R1 (tc (rdOrder t1).2) (tn (rdOrder t1).2) (tt (rdOrder t1).2) = (false, R1) := hD
          rw [hD] at he
          rw [if_neg (show ¬ ((false, R1) : Bool × Rz).1 = true from Bool.false_ne_true)] at he
          rw [← he] at hQ
          refine g_if_ne_i (tgt := 53) (by decide) d_X_firstRefusedOrder_48 (by decide) (fun h => absurd h (by decide)) (fun h48 => ?_)
          refine g_iload_n (n := 1) (i := 1) rfl rfl d_X_firstRefusedOrder_51 ?_
          refine g_ireturn_i rfl d_X_firstRefusedOrder_52 ?_
          exact hQ _ _ hN
      · refine g_ret ?_
        have hN : XN E _ _ (cTR c (rdOrder t1).2 R1) w im := hN.trans (hx.sTN hT)
        have hx := hN.2.2
        have hx9 := hx
        obtain ⟨⟨hn, x0, x1, x2, x3, x4, x5, m61, x6⟩, ⟨r1, r2, r3⟩, o1, o2, o3, o4⟩ := hx9
        have k0 : g_cell E w im (gad E 0) _ := g_mut 0 (by omega) x0
        have k1 : g_cell E w im (gad E 56) _ := g_mut 56 (by omega) x1
        have k2 : g_cell E w im (gad E 57) _ := g_mut 57 (by omega) x2
        have k3 : g_cell E w im (gad E 58) _ := g_mut 58 (by omega) x3
        have k4 : g_cell E w im (gad E 59) _ := g_mut 59 (by omega) x4
        have k5 : g_cell E w im (gad E 60) _ := g_mut 60 (by omega) x5
        have k6 : g_cell E w im (gad E 61) _ := g_mut 61 (by omega) x6
        have kn := r1.cell
        have kk := r2.cell
        have ok2 : okT (rdOrder t1).2 := o4
        obtain ⟨z1, z2, z3, z4, z5, z6, z7⟩ := ok2
        rw [if_neg (by rw [hB]; exact Bool.false_ne_true)] at he
        rw [← he] at hQ
        refine g_if_eq_i (tgt := 51) (by decide) d_X_firstRefusedOrder_27 (by decide) (fun h27 => ?_) (fun h => absurd h (by decide))
        refine g_iload_n (n := 1) (i := 1) rfl rfl d_X_firstRefusedOrder_51 ?_
        refine g_ireturn_i rfl d_X_firstRefusedOrder_52 ?_
        exact hQ _ _ hN
  refine g_enter (by decide) rfl rfl (fun h => by first | rfl | cases h) (Nat.le_of_ble_eq_true rfl) rfl ?_
  refine g_aload_n (n := 0) (i := 0) rfl rfl d_X_firstRefusedOrder_0 ?_
  refine g_getfield 0 3 f_X_29 (by assumption) (by rfl) d_X_firstRefusedOrder_1 ?_
  refine g_callV0 rfl rfl e_T_rewind l_X_470 iv_T_rewind 3 (by decide) rfl (by assumption) (by decide) (Nat.zero_le _) (Nat.zero_le _) (Nat.le_of_ble_eq_true rfl) d_X_firstRefusedOrder_4 (c_T_rewind hx.tw (fun w hT => ?_))
  refine g_retv ?_
  have hN : XN E _ _ (cTR c (tP (cT c) 0) (cN c)) w im := hx.sTN hT
  refine g_iconst_i d_X_firstRefusedOrder_7 ?_
  refine g_istore_n (n := 1) (i := 1) rfl (by decide) rfl d_X_firstRefusedOrder_8 ?_
  refine g_cut ?_ (loop (to' (cT c)).toNat 0 _ _ w im _ _ (by omega) (by have hto : 0 ≤ to' (cT c) := o4.2.2.1.1; omega) hN rfl rfl (by have hto : to' (cT c) ≤ 60 := o4.2.2.1.2; omega) (by have hto : to' (cT c) ≤ 60 := o4.2.2.1.2; omega))
  exact ⟨rfl, rfl, trivial⟩

