/-! ===== the reference: its counts ===== -/

theorem c_M_closedOn {E : gE} {w : gW} {im : gIm} {Q : gQ} {f : Nat → Int} {m : Int → Int} (hm : MR E w f m) {x y : Int} (rx : 0 ≤ x ∧ x < 12) (ry : 0 ≤ y ∧ y ≤ 30) (hQ : Q (.inl (some (.int (iI (m (5 + 34 * x + (3 + y))))))) w im) : GM E 1 y_M_closedOn m_M_closedOn 0 0 [.ref (gad E 62), .int (iI x), .int (iI y)] w im Q := by
  obtain ⟨hn, u2, u3⟩ := id hm
  have k2 : g_cell E w im (gad E 62) _ := g_mut 62 (by omega) u2
  have k3 : g_cell E w im (gad E 63) _ := g_mut 63 (by omega) u3
  refine g_enter (by decide) rfl rfl (fun h => by first | rfl | cases h) (Nat.le_of_ble_eq_true rfl) rfl ?_
  refine g_aload_n (n := 0) (i := 0) rfl rfl d_M_closedOn_0 ?_
  refine g_iload_n (n := 1) (i := 1) rfl rfl d_M_closedOn_1 ?_
  refine g_iconst_i d_M_closedOn_2 ?_
  refine g_iload_n (n := 2) (i := 2) rfl rfl d_M_closedOn_3 ?_
  refine g_iadd_i d_M_closedOn_4 ?_
  refine g_callV2 rfl rfl e_M_g l_M_63 iv_M_g 9 (by decide) rfl (by assumption) (by decide) (Nat.zero_le _) (Nat.zero_le _) (Nat.le_of_ble_eq_true rfl) d_M_closedOn_5 (c_M_g hm (by omega) (by omega) ?_)
  refine g_ret ?_
  refine g_ireturn_i rfl d_M_closedOn_8 ?_
  exact hQ

theorem c_M_closedInAll {E : gE} {w : gW} {im : gIm} {Q : gQ} {f : Nat → Int} {m : Int → Int} (hm : MR E w f m) (ok : okM m) {x : Int} (rx : 0 ≤ x ∧ x < 12) (hQ : Q (.inl (some (.int (iI (sumZ (fun k9 => m (5 + 34 * x + (3 + k9))) (31)))))) w im) : GM E 2 y_M_closedInAll m_M_closedInAll 0 0 [.ref (gad E 62), .int (iI x)] w im Q := by
  obtain ⟨hn, u2, u3⟩ := id hm
  have k2 : g_cell E w im (gad E 62) _ := g_mut 62 (by omega) u2
  have k3 : g_cell E w im (gad E 63) _ := g_mut 63 (by omega) u3
  obtain ⟨z0, z1, z2, z3, z4, z5, z6, z7, z8, z9⟩ := id ok
  have loop : ∀ (n9 : Nat) (k9 s9 : Int), 0 ≤ k9 → k9 + n9 = 31 → s9 = sumZ (fun k9 => m (5 + 34 * x + (3 + k9))) k9 → G E 2 m_M_closedInAll 4 [(0, .ref (gad E 62)), (1, .int (iI x)), (2, .int (iI s9)), (3, .int (iI k9))] [] w im 0 0 Q := by
    intro n9
    induction n9 with
    | zero =>
      intro k9 s9 h9 hk9 hs9
      have e9 : k9 = 31 := by omega
      rw [e9] at hs9
      refine g_iload_n (n := 3) (i := 3) rfl rfl d_M_closedInAll_4 ?_
      refine g_bipush_i (by decide) d_M_closedInAll_5 ?_
      refine g_icmp_ge_i (tgt := 25) (by omega) (by decide) d_M_closedInAll_7 (by decide) (fun h7 => ?_) (fun h => by exfalso; omega)
      refine g_iload_n (n := 2) (i := 2) rfl rfl d_M_closedInAll_25 ?_
      refine g_ireturn_i rfl d_M_closedInAll_26 ?_
      exact g_qi hQ hs9
    | succ n9 ih =>
      intro k9 s9 h9 hk9 hs9
      have hlt : k9 < 31 := by omega
      refine g_iload_n (n := 3) (i := 3) rfl rfl d_M_closedInAll_4 ?_
      refine g_bipush_i (by decide) d_M_closedInAll_5 ?_
      refine g_icmp_ge_i (tgt := 25) (by omega) (by decide) d_M_closedInAll_7 (by decide) (fun h => by exfalso; omega) (fun h7 => ?_)
      refine g_iload_n (n := 2) (i := 2) rfl rfl d_M_closedInAll_10 ?_
      refine g_aload_n (n := 0) (i := 0) rfl rfl d_M_closedInAll_11 ?_
      refine g_iload_n (n := 1) (i := 1) rfl rfl d_M_closedInAll_12 ?_
      refine g_iload_n (n := 3) (i := 3) rfl rfl d_M_closedInAll_13 ?_
      refine g_callV2 rfl rfl e_M_closedOn l_M_66 iv_M_closedOn 9 (by decide) rfl (by assumption) (by decide) (Nat.zero_le _) (Nat.zero_le _) (Nat.le_of_ble_eq_true rfl) d_M_closedInAll_14 (c_M_closedOn hm (by omega) (by omega) ?_)
      refine g_ret ?_
      refine g_iadd_i d_M_closedInAll_17 ?_
      refine g_istore_n (n := 2) (i := 2) rfl (by decide) rfl d_M_closedInAll_18 ?_
      refine g_iinc_i (i := 3) rfl (by decide) rfl d_M_closedInAll_19 ?_
      refine g_goto (tgt := 4) (by decide) d_M_closedInAll_22 ?_
      exact g_cut (lv' := [(0, .ref (gad E 62)), (1, .int (iI x)), (2, .int (iI _)), (3, .int (iI (k9 + 1)))]) ⟨rfl, rfl, rfl, rfl, trivial⟩ (ih (k9 + 1) _ (by omega) (by omega) (by rw [sumZ_s (by omega)]; first | omega | (simp [*]; done) | (simp [*]; omega)))
  refine g_enter (by decide) rfl rfl (fun h => by first | rfl | cases h) (Nat.le_of_ble_eq_true rfl) rfl ?_
  refine g_iconst_i d_M_closedInAll_0 ?_
  refine g_istore_n (n := 2) (i := 2) rfl (by decide) rfl d_M_closedInAll_1 ?_
  refine g_iconst_i d_M_closedInAll_2 ?_
  refine g_istore_n (n := 3) (i := 3) rfl (by decide) rfl d_M_closedInAll_3 ?_
  refine g_cut ?_ (loop (31 : Int).toNat 0 0 (by omega) (by omega) rfl)
  exact ⟨rfl, rfl, rfl, rfl, trivial⟩

theorem c_M_ridesAt {E : gE} {w : gW} {im : gIm} {Q : gQ} {f : Nat → Int} {m : Int → Int} (hm : MR E w f m) (ok : okM m) {x : Int} (rx : 0 ≤ x ∧ x < 12) (hQ : Q (.inl (some (.int (iI (sumZ (fun k9 => if m (561 + 3 * k9 + 1) = x then 1 else 0) (m 4)))))) w im) : GM E 1 y_M_ridesAt m_M_ridesAt 0 0 [.ref (gad E 62), .int (iI x)] w im Q := by
  obtain ⟨hn, u2, u3⟩ := id hm
  have k2 : g_cell E w im (gad E 62) _ := g_mut 62 (by omega) u2
  have k3 : g_cell E w im (gad E 63) _ := g_mut 63 (by omega) u3
  obtain ⟨z0, z1, z2, z3, z4, z5, z6, z7, z8, z9⟩ := id ok
  have loop : ∀ (n9 : Nat) (k9 s9 : Int), 0 ≤ k9 → k9 + n9 = m 4 → s9 = sumZ (fun k9 => if m (561 + 3 * k9 + 1) = x then 1 else 0) k9 → G E 1 m_M_ridesAt 4 [(0, .ref (gad E 62)), (1, .int (iI x)), (2, .int (iI s9)), (3, .int (iI k9))] [] w im 0 0 Q := by
    intro n9
    induction n9 with
    | zero =>
      intro k9 s9 h9 hk9 hs9
      have e9 : k9 = m 4 := by omega
      rw [e9] at hs9
      refine g_iload_n (n := 3) (i := 3) rfl rfl d_M_ridesAt_4 ?_
      refine g_aload_n (n := 0) (i := 0) rfl rfl d_M_ridesAt_5 ?_
      refine g_getfield 9 0 f_M_9 (by assumption) (by rfl) d_M_ridesAt_6 ?_
      refine g_iconst_i d_M_ridesAt_9 ?_
      refine g_iaload_i (by assumption) (by omega) (by omega) (by rfl) d_M_ridesAt_10 ?_
      refine g_icmp_ge_i (tgt := 38) (by omega) (by omega) d_M_ridesAt_11 (by decide) (fun h11 => ?_) (fun h => by exfalso; omega)
      refine g_iload_n (n := 2) (i := 2) rfl rfl d_M_ridesAt_38 ?_
      refine g_ireturn_i rfl d_M_ridesAt_39 ?_
      exact g_qi hQ hs9
    | succ n9 ih =>
      intro k9 s9 h9 hk9 hs9
      have hlt : k9 < m 4 := by omega
      have zi := z9 k9 ⟨h9, hlt⟩
      have zj := z6 (m (561 + 3 * k9 + 1)) (by omega)
      refine g_iload_n (n := 3) (i := 3) rfl rfl d_M_ridesAt_4 ?_
      refine g_aload_n (n := 0) (i := 0) rfl rfl d_M_ridesAt_5 ?_
      refine g_getfield 9 0 f_M_9 (by assumption) (by rfl) d_M_ridesAt_6 ?_
      refine g_iconst_i d_M_ridesAt_9 ?_
      refine g_iaload_i (by assumption) (by omega) (by omega) (by rfl) d_M_ridesAt_10 ?_
      refine g_icmp_ge_i (tgt := 38) (by omega) (by omega) d_M_ridesAt_11 (by decide) (fun h => by exfalso; omega) (fun h11 => ?_)
      refine g_iload_n (n := 2) (i := 2) rfl rfl d_M_ridesAt_14 ?_
      refine g_aload_n (n := 0) (i := 0) rfl rfl d_M_ridesAt_15 ?_
      refine g_iload_n (n := 3) (i := 3) rfl rfl d_M_ridesAt_16 ?_
      refine g_iconst_i d_M_ridesAt_17 ?_
      refine g_callV2 rfl rfl e_M_rideOf l_M_59 iv_M_rideOf 9 (by decide) rfl (by assumption) (by decide) (Nat.zero_le _) (Nat.zero_le _) (Nat.le_of_ble_eq_true rfl) d_M_ridesAt_18 (c_M_rideOf hm (by omega) (by omega) ?_)
      refine g_ret ?_
      refine g_iload_n (n := 1) (i := 1) rfl rfl d_M_ridesAt_21 ?_
      refine g_icmp_ne_i (tgt := 29) (by omega) (by omega) d_M_ridesAt_22 (by decide) (fun h22 => ?_) (fun h22 => ?_)
      · refine g_iconst_i d_M_ridesAt_29 ?_
        refine g_iadd_i d_M_ridesAt_30 ?_
        refine g_istore_n (n := 2) (i := 2) rfl (by decide) rfl d_M_ridesAt_31 ?_
        refine g_iinc_i (i := 3) rfl (by decide) rfl d_M_ridesAt_32 ?_
        refine g_goto (tgt := 4) (by decide) d_M_ridesAt_35 ?_
        exact g_cut (lv' := [(0, .ref (gad E 62)), (1, .int (iI x)), (2, .int (iI _)), (3, .int (iI (k9 + 1)))]) ⟨rfl, rfl, rfl, rfl, trivial⟩ (ih (k9 + 1) _ (by omega) (by omega) (by rw [sumZ_s (by omega)]; first | omega | (simp [*]; done) | (simp [*]; omega)))
      · refine g_iconst_i d_M_ridesAt_25 ?_
        refine g_goto (tgt := 30) (by decide) d_M_ridesAt_26 ?_
        refine g_iadd_i d_M_ridesAt_30 ?_
        refine g_istore_n (n := 2) (i := 2) rfl (by decide) rfl d_M_ridesAt_31 ?_
        refine g_iinc_i (i := 3) rfl (by decide) rfl d_M_ridesAt_32 ?_
        refine g_goto (tgt := 4) (by decide) d_M_ridesAt_35 ?_
        exact g_cut (lv' := [(0, .ref (gad E 62)), (1, .int (iI x)), (2, .int (iI _)), (3, .int (iI (k9 + 1)))]) ⟨rfl, rfl, rfl, rfl, trivial⟩ (ih (k9 + 1) _ (by omega) (by omega) (by rw [sumZ_s (by omega)]; first | omega | (simp [*]; done) | (simp [*]; omega)))
  refine g_enter (by decide) rfl rfl (fun h => by first | rfl | cases h) (Nat.le_of_ble_eq_true rfl) rfl ?_
  refine g_iconst_i d_M_ridesAt_0 ?_
  refine g_istore_n (n := 2) (i := 2) rfl (by decide) rfl d_M_ridesAt_1 ?_
  refine g_iconst_i d_M_ridesAt_2 ?_
  refine g_istore_n (n := 3) (i := 3) rfl (by decide) rfl d_M_ridesAt_3 ?_
  refine g_cut ?_ (loop (m 4 : Int).toNat 0 0 (by omega) (by omega) rfl)
  exact ⟨rfl, rfl, rfl, rfl, trivial⟩

theorem c_M_ridesOn {E : gE} {w : gW} {im : gIm} {Q : gQ} {f : Nat → Int} {m : Int → Int} (hm : MR E w f m) (ok : okM m) {x : Int} (rx : 0 ≤ x ∧ x < 20) (hQ : Q (.inl (some (.int (iI (sumZ (fun k9 => if m (561 + 3 * k9 + 0) = x then 1 else 0) (m 4)))))) w im) : GM E 1 y_M_ridesOn m_M_ridesOn 0 0 [.ref (gad E 62), .int (iI x)] w im Q := by
  obtain ⟨hn, u2, u3⟩ := id hm
  have k2 : g_cell E w im (gad E 62) _ := g_mut 62 (by omega) u2
  have k3 : g_cell E w im (gad E 63) _ := g_mut 63 (by omega) u3
  obtain ⟨z0, z1, z2, z3, z4, z5, z6, z7, z8, z9⟩ := id ok
  have loop : ∀ (n9 : Nat) (k9 s9 : Int), 0 ≤ k9 → k9 + n9 = m 4 → s9 = sumZ (fun k9 => if m (561 + 3 * k9 + 0) = x then 1 else 0) k9 → G E 1 m_M_ridesOn 4 [(0, .ref (gad E 62)), (1, .int (iI x)), (2, .int (iI s9)), (3, .int (iI k9))] [] w im 0 0 Q := by
    intro n9
    induction n9 with
    | zero =>
      intro k9 s9 h9 hk9 hs9
      have e9 : k9 = m 4 := by omega
      rw [e9] at hs9
      refine g_iload_n (n := 3) (i := 3) rfl rfl d_M_ridesOn_4 ?_
      refine g_aload_n (n := 0) (i := 0) rfl rfl d_M_ridesOn_5 ?_
      refine g_getfield 9 0 f_M_9 (by assumption) (by rfl) d_M_ridesOn_6 ?_
      refine g_iconst_i d_M_ridesOn_9 ?_
      refine g_iaload_i (by assumption) (by omega) (by omega) (by rfl) d_M_ridesOn_10 ?_
      refine g_icmp_ge_i (tgt := 38) (by omega) (by omega) d_M_ridesOn_11 (by decide) (fun h11 => ?_) (fun h => by exfalso; omega)
      refine g_iload_n (n := 2) (i := 2) rfl rfl d_M_ridesOn_38 ?_
      refine g_ireturn_i rfl d_M_ridesOn_39 ?_
      exact g_qi hQ hs9
    | succ n9 ih =>
      intro k9 s9 h9 hk9 hs9
      have hlt : k9 < m 4 := by omega
      have zi := z9 k9 ⟨h9, hlt⟩
      have zj := z6 (m (561 + 3 * k9 + 1)) (by omega)
      refine g_iload_n (n := 3) (i := 3) rfl rfl d_M_ridesOn_4 ?_
      refine g_aload_n (n := 0) (i := 0) rfl rfl d_M_ridesOn_5 ?_
      refine g_getfield 9 0 f_M_9 (by assumption) (by rfl) d_M_ridesOn_6 ?_
      refine g_iconst_i d_M_ridesOn_9 ?_
      refine g_iaload_i (by assumption) (by omega) (by omega) (by rfl) d_M_ridesOn_10 ?_
      refine g_icmp_ge_i (tgt := 38) (by omega) (by omega) d_M_ridesOn_11 (by decide) (fun h => by exfalso; omega) (fun h11 => ?_)
      refine g_iload_n (n := 2) (i := 2) rfl rfl d_M_ridesOn_14 ?_
      refine g_aload_n (n := 0) (i := 0) rfl rfl d_M_ridesOn_15 ?_
      refine g_iload_n (n := 3) (i := 3) rfl rfl d_M_ridesOn_16 ?_
      refine g_iconst_i d_M_ridesOn_17 ?_
      refine g_callV2 rfl rfl e_M_rideOf l_M_59 iv_M_rideOf 9 (by decide) rfl (by assumption) (by decide) (Nat.zero_le _) (Nat.zero_le _) (Nat.le_of_ble_eq_true rfl) d_M_ridesOn_18 (c_M_rideOf hm (by omega) (by omega) ?_)
      refine g_ret ?_
      refine g_iload_n (n := 1) (i := 1) rfl rfl d_M_ridesOn_21 ?_
      refine g_icmp_ne_i (tgt := 29) (by omega) (by omega) d_M_ridesOn_22 (by decide) (fun h22 => ?_) (fun h22 => ?_)
      · refine g_iconst_i d_M_ridesOn_29 ?_
        refine g_iadd_i d_M_ridesOn_30 ?_
        refine g_istore_n (n := 2) (i := 2) rfl (by decide) rfl d_M_ridesOn_31 ?_
        refine g_iinc_i (i := 3) rfl (by decide) rfl d_M_ridesOn_32 ?_
        refine g_goto (tgt := 4) (by decide) d_M_ridesOn_35 ?_
        exact g_cut (lv' := [(0, .ref (gad E 62)), (1, .int (iI x)), (2, .int (iI _)), (3, .int (iI (k9 + 1)))]) ⟨rfl, rfl, rfl, rfl, trivial⟩ (ih (k9 + 1) _ (by omega) (by omega) (by rw [sumZ_s (by omega)]; first | omega | (simp [*]; done) | (simp [*]; omega)))
      · refine g_iconst_i d_M_ridesOn_25 ?_
        refine g_goto (tgt := 30) (by decide) d_M_ridesOn_26 ?_
        refine g_iadd_i d_M_ridesOn_30 ?_
        refine g_istore_n (n := 2) (i := 2) rfl (by decide) rfl d_M_ridesOn_31 ?_
        refine g_iinc_i (i := 3) rfl (by decide) rfl d_M_ridesOn_32 ?_
        refine g_goto (tgt := 4) (by decide) d_M_ridesOn_35 ?_
        exact g_cut (lv' := [(0, .ref (gad E 62)), (1, .int (iI x)), (2, .int (iI _)), (3, .int (iI (k9 + 1)))]) ⟨rfl, rfl, rfl, rfl, trivial⟩ (ih (k9 + 1) _ (by omega) (by omega) (by rw [sumZ_s (by omega)]; first | omega | (simp [*]; done) | (simp [*]; omega)))
  refine g_enter (by decide) rfl rfl (fun h => by first | rfl | cases h) (Nat.le_of_ble_eq_true rfl) rfl ?_
  refine g_iconst_i d_M_ridesOn_0 ?_
  refine g_istore_n (n := 2) (i := 2) rfl (by decide) rfl d_M_ridesOn_1 ?_
  refine g_iconst_i d_M_ridesOn_2 ?_
  refine g_istore_n (n := 3) (i := 3) rfl (by decide) rfl d_M_ridesOn_3 ?_
  refine g_cut ?_ (loop (m 4 : Int).toNat 0 0 (by omega) (by omega) rfl)
  exact ⟨rfl, rfl, rfl, rfl, trivial⟩

theorem c_M_gatesOf {E : gE} {w : gW} {im : gIm} {Q : gQ} {f : Nat → Int} {m : Int → Int} (hm : MR E w f m) (ok : okM m) {x : Int} (rx : 0 ≤ x ∧ x < m 2) (hQ : Q (.inl (some (.int (iI (((orZ (fun k9 => if tb (m (413 + 6 * x + 4)) (m (5 + 34 * k9 + 0)) = true then 2 ^ k9.toNat else 0) (m 1) : Nat) : Int)))))) w im) : GM E 1 y_M_gatesOf m_M_gatesOf 0 0 [.ref (gad E 62), .int (iI x)] w im Q := by
  obtain ⟨hn, u2, u3⟩ := id hm
  have k2 : g_cell E w im (gad E 62) _ := g_mut 62 (by omega) u2
  have k3 : g_cell E w im (gad E 63) _ := g_mut 63 (by omega) u3
  obtain ⟨z0, z1, z2, z3, z4, z5, z6, z7, z8, z9⟩ := id ok
  have zp := z7 x rx
  have loop : ∀ (n9 : Nat) (k9 s9 : Int), 0 ≤ k9 → k9 + n9 = m 1 → s9 = ((orZ (fun k9 => if tb (m (413 + 6 * x + 4)) (m (5 + 34 * k9 + 0)) = true then 2 ^ k9.toNat else 0) k9 : Nat) : Int) → G E 1 m_M_gatesOf 4 [(0, .ref (gad E 62)), (1, .int (iI x)), (2, .int (iI s9)), (3, .int (iI k9))] [] w im 0 0 Q := by
    intro n9
    induction n9 with
    | zero =>
      intro k9 s9 h9 hk9 hs9
      have e9 : k9 = m 1 := by omega
      rw [e9] at hs9
      refine g_iload_n (n := 3) (i := 3) rfl rfl d_M_gatesOf_4 ?_
      refine g_aload_n (n := 0) (i := 0) rfl rfl d_M_gatesOf_5 ?_
      refine g_getfield 9 0 f_M_9 (by assumption) (by rfl) d_M_gatesOf_6 ?_
      refine g_iconst_i d_M_gatesOf_9 ?_
      refine g_iaload_i (by assumption) (by omega) (by omega) (by rfl) d_M_gatesOf_10 ?_
      refine g_icmp_ge_i (tgt := 48) (by omega) (by omega) d_M_gatesOf_11 (by decide) (fun h11 => ?_) (fun h => by exfalso; omega)
      refine g_iload_n (n := 2) (i := 2) rfl rfl d_M_gatesOf_48 ?_
      refine g_ireturn_i rfl d_M_gatesOf_49 ?_
      exact g_qi hQ hs9
    | succ n9 ih =>
      intro k9 s9 h9 hk9 hs9
      have hlt : k9 < m 1 := by omega
      have zi := z6 k9 ⟨h9, hlt⟩
      refine g_iload_n (n := 3) (i := 3) rfl rfl d_M_gatesOf_4 ?_
      refine g_aload_n (n := 0) (i := 0) rfl rfl d_M_gatesOf_5 ?_
      refine g_getfield 9 0 f_M_9 (by assumption) (by rfl) d_M_gatesOf_6 ?_
      refine g_iconst_i d_M_gatesOf_9 ?_
      refine g_iaload_i (by assumption) (by omega) (by omega) (by rfl) d_M_gatesOf_10 ?_
      refine g_icmp_ge_i (tgt := 48) (by omega) (by omega) d_M_gatesOf_11 (by decide) (fun h => by exfalso; omega) (fun h11 => ?_)
      refine g_iload_n (n := 2) (i := 2) rfl rfl d_M_gatesOf_14 ?_
      refine g_aload_n (n := 0) (i := 0) rfl rfl d_M_gatesOf_15 ?_
      refine g_iload_n (n := 1) (i := 1) rfl rfl d_M_gatesOf_16 ?_
      refine g_iconst_i d_M_gatesOf_17 ?_
      refine g_callV2 rfl rfl e_M_p l_M_83 iv_M_p 9 (by decide) rfl (by assumption) (by decide) (Nat.zero_le _) (Nat.zero_le _) (Nat.le_of_ble_eq_true rfl) d_M_gatesOf_18 (c_M_p hm (by omega) (by omega) ?_)
      refine g_ret ?_
      refine g_aload_n (n := 0) (i := 0) rfl rfl d_M_gatesOf_21 ?_
      refine g_iload_n (n := 3) (i := 3) rfl rfl d_M_gatesOf_22 ?_
      refine g_iconst_i d_M_gatesOf_23 ?_
      refine g_callV2 rfl rfl e_M_g l_M_63 iv_M_g 9 (by decide) rfl (by assumption) (by decide) (Nat.zero_le _) (Nat.zero_le _) (Nat.le_of_ble_eq_true rfl) d_M_gatesOf_24 (c_M_g hm (by omega) (by omega) ?_)
      refine g_ret ?_
      refine g_callS2 rfl rfl e_M_has l_M_86 st_M_has (by decide) (Nat.zero_le _) (Nat.zero_le _) (Nat.le_of_ble_eq_true rfl) d_M_gatesOf_27 (c_M_has (by omega) (fun hB => ?_) (fun hB => ?_))
      · refine g_ret ?_
        refine g_if_eq_i (tgt := 39) (by decide) d_M_gatesOf_30 (by decide) (fun h => absurd h (by decide)) (fun h30 => ?_)
        refine g_iconst_i d_M_gatesOf_33 ?_
        refine g_iload_n (n := 3) (i := 3) rfl rfl d_M_gatesOf_34 ?_
        refine g_ishl d_M_gatesOf_35 ?_
        rw [iI_shl1 (by omega)]
        refine g_goto (tgt := 40) (by decide) d_M_gatesOf_36 ?_
        refine g_ior d_M_gatesOf_40 ?_
        first | rw [hs9, iI_or] | rw [hs9, show iI 0 = iI ((0 : Nat) : Int) from rfl, iI_or]
        refine g_istore_n (n := 2) (i := 2) rfl (by decide) rfl d_M_gatesOf_41 ?_
        refine g_iinc_i (i := 3) rfl (by decide) rfl d_M_gatesOf_42 ?_
        refine g_goto (tgt := 4) (by decide) d_M_gatesOf_45 ?_
        exact g_cut (lv' := [(0, .ref (gad E 62)), (1, .int (iI x)), (2, .int (iI _)), (3, .int (iI (k9 + 1)))]) ⟨rfl, rfl, rfl, rfl, trivial⟩ (ih (k9 + 1) _ (by omega) (by omega) (by rw [orZ_s (by omega)]; first | (rw [if_pos hB]; done) | (rw [if_neg hB]; done)))
      · refine g_ret ?_
        refine g_if_eq_i (tgt := 39) (by decide) d_M_gatesOf_30 (by decide) (fun h30 => ?_) (fun h => absurd h (by decide))
        refine g_iconst_i d_M_gatesOf_39 ?_
        refine g_ior d_M_gatesOf_40 ?_
        first | rw [hs9, iI_or] | rw [hs9, show iI 0 = iI ((0 : Nat) : Int) from rfl, iI_or]
        refine g_istore_n (n := 2) (i := 2) rfl (by decide) rfl d_M_gatesOf_41 ?_
        refine g_iinc_i (i := 3) rfl (by decide) rfl d_M_gatesOf_42 ?_
        refine g_goto (tgt := 4) (by decide) d_M_gatesOf_45 ?_
        exact g_cut (lv' := [(0, .ref (gad E 62)), (1, .int (iI x)), (2, .int (iI _)), (3, .int (iI (k9 + 1)))]) ⟨rfl, rfl, rfl, rfl, trivial⟩ (ih (k9 + 1) _ (by omega) (by omega) (by rw [orZ_s (by omega)]; first | (rw [if_pos hB]; done) | (rw [if_neg hB]; done)))
  refine g_enter (by decide) rfl rfl (fun h => by first | rfl | cases h) (Nat.le_of_ble_eq_true rfl) rfl ?_
  refine g_iconst_i d_M_gatesOf_0 ?_
  refine g_istore_n (n := 2) (i := 2) rfl (by decide) rfl d_M_gatesOf_1 ?_
  refine g_iconst_i d_M_gatesOf_2 ?_
  refine g_istore_n (n := 3) (i := 3) rfl (by decide) rfl d_M_gatesOf_3 ?_
  refine g_cut ?_ (loop (m 1 : Int).toNat 0 0 (by omega) (by omega) rfl)
  exact ⟨rfl, rfl, rfl, rfl, trivial⟩

theorem c_M_ridesOfPartner {E : gE} {w : gW} {im : gIm} {Q : gQ} {f : Nat → Int} {m : Int → Int} (hm : MR E w f m) (ok : okM m) {x : Int} (rx : 0 ≤ x ∧ x ≤ 3) (hQ : Q (.inl (some (.int (iI (sumZ (fun k9 => if m (5 + 34 * m (561 + 3 * k9 + 1) + 0) = x then 1 else 0) (m 4)))))) w im) : GM E 1 y_M_ridesOfPartner m_M_ridesOfPartner 0 0 [.ref (gad E 62), .int (iI x)] w im Q := by
  obtain ⟨hn, u2, u3⟩ := id hm
  have k2 : g_cell E w im (gad E 62) _ := g_mut 62 (by omega) u2
  have k3 : g_cell E w im (gad E 63) _ := g_mut 63 (by omega) u3
  obtain ⟨z0, z1, z2, z3, z4, z5, z6, z7, z8, z9⟩ := id ok
  have loop : ∀ (n9 : Nat) (k9 s9 : Int), 0 ≤ k9 → k9 + n9 = m 4 → s9 = sumZ (fun k9 => if m (5 + 34 * m (561 + 3 * k9 + 1) + 0) = x then 1 else 0) k9 → G E 1 m_M_ridesOfPartner 4 [(0, .ref (gad E 62)), (1, .int (iI x)), (2, .int (iI s9)), (3, .int (iI k9))] [] w im 0 0 Q := by
    intro n9
    induction n9 with
    | zero =>
      intro k9 s9 h9 hk9 hs9
      have e9 : k9 = m 4 := by omega
      rw [e9] at hs9
      refine g_iload_n (n := 3) (i := 3) rfl rfl d_M_ridesOfPartner_4 ?_
      refine g_aload_n (n := 0) (i := 0) rfl rfl d_M_ridesOfPartner_5 ?_
      refine g_getfield 9 0 f_M_9 (by assumption) (by rfl) d_M_ridesOfPartner_6 ?_
      refine g_iconst_i d_M_ridesOfPartner_9 ?_
      refine g_iaload_i (by assumption) (by omega) (by omega) (by rfl) d_M_ridesOfPartner_10 ?_
      refine g_icmp_ge_i (tgt := 43) (by omega) (by omega) d_M_ridesOfPartner_11 (by decide) (fun h11 => ?_) (fun h => by exfalso; omega)
      refine g_iload_n (n := 2) (i := 2) rfl rfl d_M_ridesOfPartner_43 ?_
      refine g_ireturn_i rfl d_M_ridesOfPartner_44 ?_
      exact g_qi hQ hs9
    | succ n9 ih =>
      intro k9 s9 h9 hk9 hs9
      have hlt : k9 < m 4 := by omega
      have zi := z9 k9 ⟨h9, hlt⟩
      have zj := z6 (m (561 + 3 * k9 + 1)) (by omega)
      refine g_iload_n (n := 3) (i := 3) rfl rfl d_M_ridesOfPartner_4 ?_
      refine g_aload_n (n := 0) (i := 0) rfl rfl d_M_ridesOfPartner_5 ?_
      refine g_getfield 9 0 f_M_9 (by assumption) (by rfl) d_M_ridesOfPartner_6 ?_
      refine g_iconst_i d_M_ridesOfPartner_9 ?_
      refine g_iaload_i (by assumption) (by omega) (by omega) (by rfl) d_M_ridesOfPartner_10 ?_
      refine g_icmp_ge_i (tgt := 43) (by omega) (by omega) d_M_ridesOfPartner_11 (by decide) (fun h => by exfalso; omega) (fun h11 => ?_)
      refine g_iload_n (n := 2) (i := 2) rfl rfl d_M_ridesOfPartner_14 ?_
      refine g_aload_n (n := 0) (i := 0) rfl rfl d_M_ridesOfPartner_15 ?_
      refine g_aload_n (n := 0) (i := 0) rfl rfl d_M_ridesOfPartner_16 ?_
      refine g_iload_n (n := 3) (i := 3) rfl rfl d_M_ridesOfPartner_17 ?_
      refine g_iconst_i d_M_ridesOfPartner_18 ?_
      refine g_callV2 rfl rfl e_M_rideOf l_M_59 iv_M_rideOf 9 (by decide) rfl (by assumption) (by decide) (Nat.zero_le _) (Nat.zero_le _) (Nat.le_of_ble_eq_true rfl) d_M_ridesOfPartner_19 (c_M_rideOf hm (by omega) (by omega) ?_)
      refine g_ret ?_
      refine g_iconst_i d_M_ridesOfPartner_22 ?_
      refine g_callV2 rfl rfl e_M_g l_M_63 iv_M_g 9 (by decide) rfl (by assumption) (by decide) (Nat.zero_le _) (Nat.zero_le _) (Nat.le_of_ble_eq_true rfl) d_M_ridesOfPartner_23 (c_M_g hm (by omega) (by omega) ?_)
      refine g_ret ?_
      refine g_iload_n (n := 1) (i := 1) rfl rfl d_M_ridesOfPartner_26 ?_
      refine g_icmp_ne_i (tgt := 34) (by omega) (by omega) d_M_ridesOfPartner_27 (by decide) (fun h27 => ?_) (fun h27 => ?_)
      · refine g_iconst_i d_M_ridesOfPartner_34 ?_
        refine g_iadd_i d_M_ridesOfPartner_35 ?_
        refine g_istore_n (n := 2) (i := 2) rfl (by decide) rfl d_M_ridesOfPartner_36 ?_
        refine g_iinc_i (i := 3) rfl (by decide) rfl d_M_ridesOfPartner_37 ?_
        refine g_goto (tgt := 4) (by decide) d_M_ridesOfPartner_40 ?_
        exact g_cut (lv' := [(0, .ref (gad E 62)), (1, .int (iI x)), (2, .int (iI _)), (3, .int (iI (k9 + 1)))]) ⟨rfl, rfl, rfl, rfl, trivial⟩ (ih (k9 + 1) _ (by omega) (by omega) (by rw [sumZ_s (by omega)]; first | omega | (simp [*]; done) | (simp [*]; omega)))
      · refine g_iconst_i d_M_ridesOfPartner_30 ?_
        refine g_goto (tgt := 35) (by decide) d_M_ridesOfPartner_31 ?_
        refine g_iadd_i d_M_ridesOfPartner_35 ?_
        refine g_istore_n (n := 2) (i := 2) rfl (by decide) rfl d_M_ridesOfPartner_36 ?_
        refine g_iinc_i (i := 3) rfl (by decide) rfl d_M_ridesOfPartner_37 ?_
        refine g_goto (tgt := 4) (by decide) d_M_ridesOfPartner_40 ?_
        exact g_cut (lv' := [(0, .ref (gad E 62)), (1, .int (iI x)), (2, .int (iI _)), (3, .int (iI (k9 + 1)))]) ⟨rfl, rfl, rfl, rfl, trivial⟩ (ih (k9 + 1) _ (by omega) (by omega) (by rw [sumZ_s (by omega)]; first | omega | (simp [*]; done) | (simp [*]; omega)))
  refine g_enter (by decide) rfl rfl (fun h => by first | rfl | cases h) (Nat.le_of_ble_eq_true rfl) rfl ?_
  refine g_iconst_i d_M_ridesOfPartner_0 ?_
  refine g_istore_n (n := 2) (i := 2) rfl (by decide) rfl d_M_ridesOfPartner_1 ?_
  refine g_iconst_i d_M_ridesOfPartner_2 ?_
  refine g_istore_n (n := 3) (i := 3) rfl (by decide) rfl d_M_ridesOfPartner_3 ?_
  refine g_cut ?_ (loop (m 4 : Int).toNat 0 0 (by omega) (by omega) rfl)
  exact ⟨rfl, rfl, rfl, rfl, trivial⟩

theorem c_M_gatesOfPartner {E : gE} {w : gW} {im : gIm} {Q : gQ} {f : Nat → Int} {m : Int → Int} (hm : MR E w f m) (ok : okM m) {x : Int} (rx : 0 ≤ x ∧ x ≤ 3) (hQ : Q (.inl (some (.int (iI (sumZ (fun k9 => if m (5 + 34 * k9 + 0) = x then 1 else 0) (m 1)))))) w im) : GM E 1 y_M_gatesOfPartner m_M_gatesOfPartner 0 0 [.ref (gad E 62), .int (iI x)] w im Q := by
  obtain ⟨hn, u2, u3⟩ := id hm
  have k2 : g_cell E w im (gad E 62) _ := g_mut 62 (by omega) u2
  have k3 : g_cell E w im (gad E 63) _ := g_mut 63 (by omega) u3
  obtain ⟨z0, z1, z2, z3, z4, z5, z6, z7, z8, z9⟩ := id ok
  have loop : ∀ (n9 : Nat) (k9 s9 : Int), 0 ≤ k9 → k9 + n9 = m 1 → s9 = sumZ (fun k9 => if m (5 + 34 * k9 + 0) = x then 1 else 0) k9 → G E 1 m_M_gatesOfPartner 4 [(0, .ref (gad E 62)), (1, .int (iI x)), (2, .int (iI s9)), (3, .int (iI k9))] [] w im 0 0 Q := by
    intro n9
    induction n9 with
    | zero =>
      intro k9 s9 h9 hk9 hs9
      have e9 : k9 = m 1 := by omega
      rw [e9] at hs9
      refine g_iload_n (n := 3) (i := 3) rfl rfl d_M_gatesOfPartner_4 ?_
      refine g_aload_n (n := 0) (i := 0) rfl rfl d_M_gatesOfPartner_5 ?_
      refine g_getfield 9 0 f_M_9 (by assumption) (by rfl) d_M_gatesOfPartner_6 ?_
      refine g_iconst_i d_M_gatesOfPartner_9 ?_
      refine g_iaload_i (by assumption) (by omega) (by omega) (by rfl) d_M_gatesOfPartner_10 ?_
      refine g_icmp_ge_i (tgt := 38) (by omega) (by omega) d_M_gatesOfPartner_11 (by decide) (fun h11 => ?_) (fun h => by exfalso; omega)
      refine g_iload_n (n := 2) (i := 2) rfl rfl d_M_gatesOfPartner_38 ?_
      refine g_ireturn_i rfl d_M_gatesOfPartner_39 ?_
      exact g_qi hQ hs9
    | succ n9 ih =>
      intro k9 s9 h9 hk9 hs9
      have hlt : k9 < m 1 := by omega
      have zi := z6 k9 ⟨h9, hlt⟩
      refine g_iload_n (n := 3) (i := 3) rfl rfl d_M_gatesOfPartner_4 ?_
      refine g_aload_n (n := 0) (i := 0) rfl rfl d_M_gatesOfPartner_5 ?_
      refine g_getfield 9 0 f_M_9 (by assumption) (by rfl) d_M_gatesOfPartner_6 ?_
      refine g_iconst_i d_M_gatesOfPartner_9 ?_
      refine g_iaload_i (by assumption) (by omega) (by omega) (by rfl) d_M_gatesOfPartner_10 ?_
      refine g_icmp_ge_i (tgt := 38) (by omega) (by omega) d_M_gatesOfPartner_11 (by decide) (fun h => by exfalso; omega) (fun h11 => ?_)
      refine g_iload_n (n := 2) (i := 2) rfl rfl d_M_gatesOfPartner_14 ?_
      refine g_aload_n (n := 0) (i := 0) rfl rfl d_M_gatesOfPartner_15 ?_
      refine g_iload_n (n := 3) (i := 3) rfl rfl d_M_gatesOfPartner_16 ?_
      refine g_iconst_i d_M_gatesOfPartner_17 ?_
      refine g_callV2 rfl rfl e_M_g l_M_63 iv_M_g 9 (by decide) rfl (by assumption) (by decide) (Nat.zero_le _) (Nat.zero_le _) (Nat.le_of_ble_eq_true rfl) d_M_gatesOfPartner_18 (c_M_g hm (by omega) (by omega) ?_)
      refine g_ret ?_
      refine g_iload_n (n := 1) (i := 1) rfl rfl d_M_gatesOfPartner_21 ?_
      refine g_icmp_ne_i (tgt := 29) (by omega) (by omega) d_M_gatesOfPartner_22 (by decide) (fun h22 => ?_) (fun h22 => ?_)
      · refine g_iconst_i d_M_gatesOfPartner_29 ?_
        refine g_iadd_i d_M_gatesOfPartner_30 ?_
        refine g_istore_n (n := 2) (i := 2) rfl (by decide) rfl d_M_gatesOfPartner_31 ?_
        refine g_iinc_i (i := 3) rfl (by decide) rfl d_M_gatesOfPartner_32 ?_
        refine g_goto (tgt := 4) (by decide) d_M_gatesOfPartner_35 ?_
        exact g_cut (lv' := [(0, .ref (gad E 62)), (1, .int (iI x)), (2, .int (iI _)), (3, .int (iI (k9 + 1)))]) ⟨rfl, rfl, rfl, rfl, trivial⟩ (ih (k9 + 1) _ (by omega) (by omega) (by rw [sumZ_s (by omega)]; first | omega | (simp [*]; done) | (simp [*]; omega)))
      · refine g_iconst_i d_M_gatesOfPartner_25 ?_
        refine g_goto (tgt := 30) (by decide) d_M_gatesOfPartner_26 ?_
        refine g_iadd_i d_M_gatesOfPartner_30 ?_
        refine g_istore_n (n := 2) (i := 2) rfl (by decide) rfl d_M_gatesOfPartner_31 ?_
        refine g_iinc_i (i := 3) rfl (by decide) rfl d_M_gatesOfPartner_32 ?_
        refine g_goto (tgt := 4) (by decide) d_M_gatesOfPartner_35 ?_
        exact g_cut (lv' := [(0, .ref (gad E 62)), (1, .int (iI x)), (2, .int (iI _)), (3, .int (iI (k9 + 1)))]) ⟨rfl, rfl, rfl, rfl, trivial⟩ (ih (k9 + 1) _ (by omega) (by omega) (by rw [sumZ_s (by omega)]; first | omega | (simp [*]; done) | (simp [*]; omega)))
  refine g_enter (by decide) rfl rfl (fun h => by first | rfl | cases h) (Nat.le_of_ble_eq_true rfl) rfl ?_
  refine g_iconst_i d_M_gatesOfPartner_0 ?_
  refine g_istore_n (n := 2) (i := 2) rfl (by decide) rfl d_M_gatesOfPartner_1 ?_
  refine g_iconst_i d_M_gatesOfPartner_2 ?_
  refine g_istore_n (n := 3) (i := 3) rfl (by decide) rfl d_M_gatesOfPartner_3 ?_
  refine g_cut ?_ (loop (m 1 : Int).toNat 0 0 (by omega) (by omega) rfl)
  exact ⟨rfl, rfl, rfl, rfl, trivial⟩

theorem c_M_ridesOf {E : gE} {w : gW} {im : gIm} {Q : gQ} {f : Nat → Int} {m : Int → Int} (hm : MR E w f m) (ok : okM m) {x y : Int} (rx : 0 ≤ x ∧ x < 20) (ry : 0 ≤ y ∧ y ≤ 3) (hQ : Q (.inl (some (.int (iI (sumZ (fun k9 => if m (561 + 3 * k9 + 0) = x then (if m (5 + 34 * m (561 + 3 * k9 + 1) + 0) = y then 1 else 0) else 0) (m 4)))))) w im) : GM E 1 y_M_ridesOf m_M_ridesOf 0 0 [.ref (gad E 62), .int (iI x), .int (iI y)] w im Q := by
  obtain ⟨hn, u2, u3⟩ := id hm
  have k2 : g_cell E w im (gad E 62) _ := g_mut 62 (by omega) u2
  have k3 : g_cell E w im (gad E 63) _ := g_mut 63 (by omega) u3
  obtain ⟨z0, z1, z2, z3, z4, z5, z6, z7, z8, z9⟩ := id ok
  have loop : ∀ (n9 : Nat) (k9 s9 : Int), 0 ≤ k9 → k9 + n9 = m 4 → s9 = sumZ (fun k9 => if m (561 + 3 * k9 + 0) = x then (if m (5 + 34 * m (561 + 3 * k9 + 1) + 0) = y then 1 else 0) else 0) k9 → G E 1 m_M_ridesOf 5 [(0, .ref (gad E 62)), (1, .int (iI x)), (2, .int (iI y)), (3, .int (iI s9)), (4, .int (iI k9))] [] w im 0 0 Q := by
    intro n9
    induction n9 with
    | zero =>
      intro k9 s9 h9 hk9 hs9
      have e9 : k9 = m 4 := by omega
      rw [e9] at hs9
      refine g_iload (i := 4) rfl d_M_ridesOf_5 ?_
      refine g_aload_n (n := 0) (i := 0) rfl rfl d_M_ridesOf_7 ?_
      refine g_getfield 9 0 f_M_9 (by assumption) (by rfl) d_M_ridesOf_8 ?_
      refine g_iconst_i d_M_ridesOf_11 ?_
      refine g_iaload_i (by assumption) (by omega) (by omega) (by rfl) d_M_ridesOf_12 ?_
      refine g_icmp_ge_i (tgt := 57) (by omega) (by omega) d_M_ridesOf_13 (by decide) (fun h13 => ?_) (fun h => by exfalso; omega)
      refine g_iload_n (n := 3) (i := 3) rfl rfl d_M_ridesOf_57 ?_
      refine g_ireturn_i rfl d_M_ridesOf_58 ?_
      exact g_qi hQ hs9
    | succ n9 ih =>
      intro k9 s9 h9 hk9 hs9
      have hlt : k9 < m 4 := by omega
      have zi := z9 k9 ⟨h9, hlt⟩
      have zj := z6 (m (561 + 3 * k9 + 1)) (by omega)
      refine g_iload (i := 4) rfl d_M_ridesOf_5 ?_
      refine g_aload_n (n := 0) (i := 0) rfl rfl d_M_ridesOf_7 ?_
      refine g_getfield 9 0 f_M_9 (by assumption) (by rfl) d_M_ridesOf_8 ?_
      refine g_iconst_i d_M_ridesOf_11 ?_
      refine g_iaload_i (by assumption) (by omega) (by omega) (by rfl) d_M_ridesOf_12 ?_
      refine g_icmp_ge_i (tgt := 57) (by omega) (by omega) d_M_ridesOf_13 (by decide) (fun h => by exfalso; omega) (fun h13 => ?_)
      refine g_iload_n (n := 3) (i := 3) rfl rfl d_M_ridesOf_16 ?_
      refine g_aload_n (n := 0) (i := 0) rfl rfl d_M_ridesOf_17 ?_
      refine g_iload (i := 4) rfl d_M_ridesOf_18 ?_
      refine g_iconst_i d_M_ridesOf_20 ?_
      refine g_callV2 rfl rfl e_M_rideOf l_M_59 iv_M_rideOf 9 (by decide) rfl (by assumption) (by decide) (Nat.zero_le _) (Nat.zero_le _) (Nat.le_of_ble_eq_true rfl) d_M_ridesOf_21 (c_M_rideOf hm (by omega) (by omega) ?_)
      refine g_ret ?_
      refine g_iload_n (n := 1) (i := 1) rfl rfl d_M_ridesOf_24 ?_
      refine g_icmp_ne_i (tgt := 48) (by omega) (by omega) d_M_ridesOf_25 (by decide) (fun h25 => ?_) (fun h25 => ?_)
      · refine g_iconst_i d_M_ridesOf_48 ?_
        refine g_iadd_i d_M_ridesOf_49 ?_
        refine g_istore_n (n := 3) (i := 3) rfl (by decide) rfl d_M_ridesOf_50 ?_
        refine g_iinc_i (i := 4) rfl (by decide) rfl d_M_ridesOf_51 ?_
        refine g_goto (tgt := 5) (by decide) d_M_ridesOf_54 ?_
        exact g_cut (lv' := [(0, .ref (gad E 62)), (1, .int (iI x)), (2, .int (iI y)), (3, .int (iI _)), (4, .int (iI (k9 + 1)))]) ⟨rfl, rfl, rfl, rfl, rfl, trivial⟩ (ih (k9 + 1) _ (by omega) (by omega) (by rw [sumZ_s (by omega)]; first | omega | (simp [*]; done) | (simp [*]; omega)))
      · refine g_aload_n (n := 0) (i := 0) rfl rfl d_M_ridesOf_28 ?_
        refine g_aload_n (n := 0) (i := 0) rfl rfl d_M_ridesOf_29 ?_
        refine g_iload (i := 4) rfl d_M_ridesOf_30 ?_
        refine g_iconst_i d_M_ridesOf_32 ?_
        refine g_callV2 rfl rfl e_M_rideOf l_M_59 iv_M_rideOf 9 (by decide) rfl (by assumption) (by decide) (Nat.zero_le _) (Nat.zero_le _) (Nat.le_of_ble_eq_true rfl) d_M_ridesOf_33 (c_M_rideOf hm (by omega) (by omega) ?_)
        refine g_ret ?_
        refine g_iconst_i d_M_ridesOf_36 ?_
        refine g_callV2 rfl rfl e_M_g l_M_63 iv_M_g 9 (by decide) rfl (by assumption) (by decide) (Nat.zero_le _) (Nat.zero_le _) (Nat.le_of_ble_eq_true rfl) d_M_ridesOf_37 (c_M_g hm (by omega) (by omega) ?_)
        refine g_ret ?_
        refine g_iload_n (n := 2) (i := 2) rfl rfl d_M_ridesOf_40 ?_
        refine g_icmp_ne_i (tgt := 48) (by omega) (by omega) d_M_ridesOf_41 (by decide) (fun h41 => ?_) (fun h41 => ?_)
        · refine g_iconst_i d_M_ridesOf_48 ?_
          refine g_iadd_i d_M_ridesOf_49 ?_
          refine g_istore_n (n := 3) (i := 3) rfl (by decide) rfl d_M_ridesOf_50 ?_
          refine g_iinc_i (i := 4) rfl (by decide) rfl d_M_ridesOf_51 ?_
          refine g_goto (tgt := 5) (by decide) d_M_ridesOf_54 ?_
          exact g_cut (lv' := [(0, .ref (gad E 62)), (1, .int (iI x)), (2, .int (iI y)), (3, .int (iI _)), (4, .int (iI (k9 + 1)))]) ⟨rfl, rfl, rfl, rfl, rfl, trivial⟩ (ih (k9 + 1) _ (by omega) (by omega) (by rw [sumZ_s (by omega)]; first | omega | (simp [*]; done) | (simp [*]; omega)))
        · refine g_iconst_i d_M_ridesOf_44 ?_
          refine g_goto (tgt := 49) (by decide) d_M_ridesOf_45 ?_
          refine g_iadd_i d_M_ridesOf_49 ?_
          refine g_istore_n (n := 3) (i := 3) rfl (by decide) rfl d_M_ridesOf_50 ?_
          refine g_iinc_i (i := 4) rfl (by decide) rfl d_M_ridesOf_51 ?_
          refine g_goto (tgt := 5) (by decide) d_M_ridesOf_54 ?_
          exact g_cut (lv' := [(0, .ref (gad E 62)), (1, .int (iI x)), (2, .int (iI y)), (3, .int (iI _)), (4, .int (iI (k9 + 1)))]) ⟨rfl, rfl, rfl, rfl, rfl, trivial⟩ (ih (k9 + 1) _ (by omega) (by omega) (by rw [sumZ_s (by omega)]; first | omega | (simp [*]; done) | (simp [*]; omega)))
  refine g_enter (by decide) rfl rfl (fun h => by first | rfl | cases h) (Nat.le_of_ble_eq_true rfl) rfl ?_
  refine g_iconst_i d_M_ridesOf_0 ?_
  refine g_istore_n (n := 3) (i := 3) rfl (by decide) rfl d_M_ridesOf_1 ?_
  refine g_iconst_i d_M_ridesOf_2 ?_
  refine g_istore (i := 4) (by decide) rfl d_M_ridesOf_3 ?_
  refine g_cut ?_ (loop (m 4 : Int).toNat 0 0 (by omega) (by omega) rfl)
  exact ⟨rfl, rfl, rfl, rfl, rfl, trivial⟩

def ridesOnM (m : Int → Int) (x : Int) : Int := sumZ (fun k9 => if m (561 + 3 * k9 + 0) = x then 1 else 0) (m 4)
def ridesOfM (m : Int → Int) (x y : Int) : Int := sumZ (fun k9 => if m (561 + 3 * k9 + 0) = x then (if m (5 + 34 * m (561 + 3 * k9 + 1) + 0) = y then 1 else 0) else 0) (m 4)
theorem ridesOnM_rng {m : Int → Int} (h : 0 ≤ m 4 ∧ m 4 ≤ 600) {x : Int} : 0 ≤ ridesOnM m x ∧ ridesOnM m x ≤ 600 := by
  have := sumZ_le (f := fun k9 => if m (561 + 3 * k9 + 0) = x then 1 else 0) (c := 1) (n := m 4) h.1 (fun k9 _ _ => by (repeat' split) <;> omega)
  unfold ridesOnM
  omega
theorem ridesOfM_rng {m : Int → Int} (h : 0 ≤ m 4 ∧ m 4 ≤ 600) {x y : Int} : 0 ≤ ridesOfM m x y ∧ ridesOfM m x y ≤ 600 := by
  have := sumZ_le (f := fun k9 => if m (561 + 3 * k9 + 0) = x then (if m (5 + 34 * m (561 + 3 * k9 + 1) + 0) = y then 1 else 0) else 0) (c := 1) (n := m 4) h.1 (fun k9 _ _ => by (repeat' split) <;> omega)
  unfold ridesOfM
  omega

theorem c_M_cardsOfPartner {E : gE} {w : gW} {im : gIm} {Q : gQ} {f : Nat → Int} {m : Int → Int} (hm : MR E w f m) (ok : okM m) {y : Int} (ry : 0 ≤ y ∧ y ≤ 3) (hQ : Q (.inl (some (.int (iI (sumZ (fun k9 => if 0 < ridesOfM m k9 y then 1 else 0) (m 3)))))) w im) : GM E 2 y_M_cardsOfPartner m_M_cardsOfPartner 0 0 [.ref (gad E 62), .int (iI y)] w im Q := by
  obtain ⟨hn, u2, u3⟩ := id hm
  have k2 : g_cell E w im (gad E 62) _ := g_mut 62 (by omega) u2
  have k3 : g_cell E w im (gad E 63) _ := g_mut 63 (by omega) u3
  obtain ⟨z0, z1, z2, z3, z4, z5, z6, z7, z8, z9⟩ := id ok
  have loop : ∀ (n9 : Nat) (k9 s9 : Int), 0 ≤ k9 → k9 + n9 = m 3 → s9 = sumZ (fun k9 => if 0 < ridesOfM m k9 y then 1 else 0) k9 → G E 2 m_M_cardsOfPartner 4 [(0, .ref (gad E 62)), (1, .int (iI y)), (2, .int (iI s9)), (3, .int (iI k9))] [] w im 0 0 Q := by
    intro n9
    induction n9 with
    | zero =>
      intro k9 s9 h9 hk9 hs9
      have e9 : k9 = m 3 := by omega
      rw [e9] at hs9
      refine g_iload_n (n := 3) (i := 3) rfl rfl d_M_cardsOfPartner_4 ?_
      refine g_aload_n (n := 0) (i := 0) rfl rfl d_M_cardsOfPartner_5 ?_
      refine g_getfield 9 0 f_M_9 (by assumption) (by rfl) d_M_cardsOfPartner_6 ?_
      refine g_iconst_i d_M_cardsOfPartner_9 ?_
      refine g_iaload_i (by assumption) (by omega) (by omega) (by rfl) d_M_cardsOfPartner_10 ?_
      refine g_icmp_ge_i (tgt := 37) (by omega) (by omega) d_M_cardsOfPartner_11 (by decide) (fun h11 => ?_) (fun h => by exfalso; omega)
      refine g_iload_n (n := 2) (i := 2) rfl rfl d_M_cardsOfPartner_37 ?_
      refine g_ireturn_i rfl d_M_cardsOfPartner_38 ?_
      exact g_qi hQ hs9
    | succ n9 ih =>
      intro k9 s9 h9 hk9 hs9
      have hlt : k9 < m 3 := by omega
      have zi := z8 k9 ⟨h9, hlt⟩
      have hrr := ridesOfM_rng z4 (x := k9) (y := y)
      refine g_iload_n (n := 3) (i := 3) rfl rfl d_M_cardsOfPartner_4 ?_
      refine g_aload_n (n := 0) (i := 0) rfl rfl d_M_cardsOfPartner_5 ?_
      refine g_getfield 9 0 f_M_9 (by assumption) (by rfl) d_M_cardsOfPartner_6 ?_
      refine g_iconst_i d_M_cardsOfPartner_9 ?_
      refine g_iaload_i (by assumption) (by omega) (by omega) (by rfl) d_M_cardsOfPartner_10 ?_
      refine g_icmp_ge_i (tgt := 37) (by omega) (by omega) d_M_cardsOfPartner_11 (by decide) (fun h => by exfalso; omega) (fun h11 => ?_)
      refine g_iload_n (n := 2) (i := 2) rfl rfl d_M_cardsOfPartner_14 ?_
      refine g_aload_n (n := 0) (i := 0) rfl rfl d_M_cardsOfPartner_15 ?_
      refine g_iload_n (n := 3) (i := 3) rfl rfl d_M_cardsOfPartner_16 ?_
      refine g_iload_n (n := 1) (i := 1) rfl rfl d_M_cardsOfPartner_17 ?_
      refine g_callV2 rfl rfl e_M_ridesOf l_M_178 iv_M_ridesOf 9 (by decide) rfl (by assumption) (by decide) (Nat.zero_le _) (Nat.zero_le _) (Nat.le_of_ble_eq_true rfl) d_M_cardsOfPartner_18 (c_M_ridesOf hm ok (by omega) (by omega) ?_)
      refine g_ret ?_
      change G E 2 m_M_cardsOfPartner 21 _ [.int (iI (ridesOfM m k9 y)), .int (iI s9)] _ _ _ _ Q
      refine g_if_le_i (tgt := 28) (by omega) d_M_cardsOfPartner_21 (by decide) (fun h21 => ?_) (fun h21 => ?_)
      · refine g_iconst_i d_M_cardsOfPartner_28 ?_
        refine g_iadd_i d_M_cardsOfPartner_29 ?_
        refine g_istore_n (n := 2) (i := 2) rfl (by decide) rfl d_M_cardsOfPartner_30 ?_
        refine g_iinc_i (i := 3) rfl (by decide) rfl d_M_cardsOfPartner_31 ?_
        refine g_goto (tgt := 4) (by decide) d_M_cardsOfPartner_34 ?_
        exact g_cut (lv' := [(0, .ref (gad E 62)), (1, .int (iI y)), (2, .int (iI _)), (3, .int (iI (k9 + 1)))]) ⟨rfl, rfl, rfl, rfl, trivial⟩ (ih (k9 + 1) _ (by omega) (by omega) (by rw [sumZ_s (by omega)]; first | omega | (simp [*]; done) | (simp [*]; omega)))
      · refine g_iconst_i d_M_cardsOfPartner_24 ?_
        refine g_goto (tgt := 29) (by decide) d_M_cardsOfPartner_25 ?_
        refine g_iadd_i d_M_cardsOfPartner_29 ?_
        refine g_istore_n (n := 2) (i := 2) rfl (by decide) rfl d_M_cardsOfPartner_30 ?_
        refine g_iinc_i (i := 3) rfl (by decide) rfl d_M_cardsOfPartner_31 ?_
        refine g_goto (tgt := 4) (by decide) d_M_cardsOfPartner_34 ?_
        exact g_cut (lv' := [(0, .ref (gad E 62)), (1, .int (iI y)), (2, .int (iI _)), (3, .int (iI (k9 + 1)))]) ⟨rfl, rfl, rfl, rfl, trivial⟩ (ih (k9 + 1) _ (by omega) (by omega) (by rw [sumZ_s (by omega)]; first | omega | (simp [*]; done) | (simp [*]; omega)))
  refine g_enter (by decide) rfl rfl (fun h => by first | rfl | cases h) (Nat.le_of_ble_eq_true rfl) rfl ?_
  refine g_iconst_i d_M_cardsOfPartner_0 ?_
  refine g_istore_n (n := 2) (i := 2) rfl (by decide) rfl d_M_cardsOfPartner_1 ?_
  refine g_iconst_i d_M_cardsOfPartner_2 ?_
  refine g_istore_n (n := 3) (i := 3) rfl (by decide) rfl d_M_cardsOfPartner_3 ?_
  refine g_cut ?_ (loop (m 3 : Int).toNat 0 0 (by omega) (by omega) rfl)
  exact ⟨rfl, rfl, rfl, rfl, trivial⟩

theorem c_M_wayOf {E : gE} {w : gW} {im : gIm} {Q : gQ} {f : Nat → Int} {m : Int → Int} (hm : MR E w f m) (ok : okM m) {x y : Int} (rx : 0 ≤ x ∧ x < m 1) (ry : 0 ≤ y ∧ y < m 1) (hQ : Q (.inl (some (.int (iI (wayZ (m (5 + 34 * x + 0)) (m (5 + 34 * x + 1)) (m (5 + 34 * y + 0)) (m (5 + 34 * y + 1))))))) w im) : GM E 1 y_M_wayOf m_M_wayOf 0 0 [.ref (gad E 62), .int (iI x), .int (iI y)] w im Q := by
  obtain ⟨hn, u2, u3⟩ := id hm
  have k2 : g_cell E w im (gad E 62) _ := g_mut 62 (by omega) u2
  have k3 : g_cell E w im (gad E 63) _ := g_mut 63 (by omega) u3
  obtain ⟨z0, z1, z2, z3, z4, z5, z6, z7, z8, z9⟩ := id ok
  have zx := z6 x rx
  have zy := z6 y ry
  refine g_enter (by decide) rfl rfl (fun h => by first | rfl | cases h) (Nat.le_of_ble_eq_true rfl) rfl ?_
  refine g_aload_n (n := 0) (i := 0) rfl rfl d_M_wayOf_0 ?_
  refine g_iload_n (n := 1) (i := 1) rfl rfl d_M_wayOf_1 ?_
  refine g_iconst_i d_M_wayOf_2 ?_
  refine g_callV2 rfl rfl e_M_g l_M_63 iv_M_g 9 (by decide) rfl (by assumption) (by decide) (Nat.zero_le _) (Nat.zero_le _) (Nat.le_of_ble_eq_true rfl) d_M_wayOf_3 (c_M_g hm (by omega) (by omega) ?_)
  refine g_ret ?_
  refine g_aload_n (n := 0) (i := 0) rfl rfl d_M_wayOf_6 ?_
  refine g_iload_n (n := 2) (i := 2) rfl rfl d_M_wayOf_7 ?_
  refine g_iconst_i d_M_wayOf_8 ?_
  refine g_callV2 rfl rfl e_M_g l_M_63 iv_M_g 9 (by decide) rfl (by assumption) (by decide) (Nat.zero_le _) (Nat.zero_le _) (Nat.le_of_ble_eq_true rfl) d_M_wayOf_9 (c_M_g hm (by omega) (by omega) ?_)
  refine g_ret ?_
  refine g_isub_i d_M_wayOf_12 ?_
  refine g_istore_n (n := 3) (i := 3) rfl (by decide) rfl d_M_wayOf_13 ?_
  refine g_iload_n (n := 3) (i := 3) rfl rfl d_M_wayOf_14 ?_
  refine g_if_ge_i (tgt := 23) (by omega) d_M_wayOf_15 (by decide) (fun h15 => ?_) (fun h15 => ?_)
  · refine g_iload_n (n := 3) (i := 3) rfl rfl d_M_wayOf_23 ?_
    refine g_aload_n (n := 0) (i := 0) rfl rfl d_M_wayOf_24 ?_
    refine g_iload_n (n := 1) (i := 1) rfl rfl d_M_wayOf_25 ?_
    refine g_iconst_i d_M_wayOf_26 ?_
    refine g_callV2 rfl rfl e_M_g l_M_63 iv_M_g 9 (by decide) rfl (by assumption) (by decide) (Nat.zero_le _) (Nat.zero_le _) (Nat.le_of_ble_eq_true rfl) d_M_wayOf_27 (c_M_g hm (by omega) (by omega) ?_)
    refine g_ret ?_
    refine g_aload_n (n := 0) (i := 0) rfl rfl d_M_wayOf_30 ?_
    refine g_iload_n (n := 2) (i := 2) rfl rfl d_M_wayOf_31 ?_
    refine g_iconst_i d_M_wayOf_32 ?_
    refine g_callV2 rfl rfl e_M_g l_M_63 iv_M_g 9 (by decide) rfl (by assumption) (by decide) (Nat.zero_le _) (Nat.zero_le _) (Nat.le_of_ble_eq_true rfl) d_M_wayOf_33 (c_M_g hm (by omega) (by omega) ?_)
    refine g_ret ?_
    refine g_icmp_ne_i (tgt := 43) (by omega) (by omega) d_M_wayOf_36 (by decide) (fun h36 => ?_) (fun h36 => ?_)
    · refine g_bipush_i (by decide) d_M_wayOf_43 ?_
      refine g_iadd_i d_M_wayOf_45 ?_
      refine g_ireturn_i rfl d_M_wayOf_46 ?_
      exact g_qi hQ (by unfold wayZ; (repeat' split) <;> omega)
    · refine g_iconst_i d_M_wayOf_39 ?_
      refine g_goto (tgt := 45) (by decide) d_M_wayOf_40 ?_
      refine g_iadd_i d_M_wayOf_45 ?_
      refine g_ireturn_i rfl d_M_wayOf_46 ?_
      exact g_qi hQ (by unfold wayZ; (repeat' split) <;> omega)
  · refine g_iload_n (n := 3) (i := 3) rfl rfl d_M_wayOf_18 ?_
    refine g_ineg_i d_M_wayOf_19 ?_
    refine g_goto (tgt := 24) (by decide) d_M_wayOf_20 ?_
    refine g_aload_n (n := 0) (i := 0) rfl rfl d_M_wayOf_24 ?_
    refine g_iload_n (n := 1) (i := 1) rfl rfl d_M_wayOf_25 ?_
    refine g_iconst_i d_M_wayOf_26 ?_
    refine g_callV2 rfl rfl e_M_g l_M_63 iv_M_g 9 (by decide) rfl (by assumption) (by decide) (Nat.zero_le _) (Nat.zero_le _) (Nat.le_of_ble_eq_true rfl) d_M_wayOf_27 (c_M_g hm (by omega) (by omega) ?_)
    refine g_ret ?_
    refine g_aload_n (n := 0) (i := 0) rfl rfl d_M_wayOf_30 ?_
    refine g_iload_n (n := 2) (i := 2) rfl rfl d_M_wayOf_31 ?_
    refine g_iconst_i d_M_wayOf_32 ?_
    refine g_callV2 rfl rfl e_M_g l_M_63 iv_M_g 9 (by decide) rfl (by assumption) (by decide) (Nat.zero_le _) (Nat.zero_le _) (Nat.le_of_ble_eq_true rfl) d_M_wayOf_33 (c_M_g hm (by omega) (by omega) ?_)
    refine g_ret ?_
    refine g_icmp_ne_i (tgt := 43) (by omega) (by omega) d_M_wayOf_36 (by decide) (fun h36 => ?_) (fun h36 => ?_)
    · refine g_bipush_i (by decide) d_M_wayOf_43 ?_
      refine g_iadd_i d_M_wayOf_45 ?_
      refine g_ireturn_i rfl d_M_wayOf_46 ?_
      exact g_qi hQ (by unfold wayZ; (repeat' split) <;> omega)
    · refine g_iconst_i d_M_wayOf_39 ?_
      refine g_goto (tgt := 45) (by decide) d_M_wayOf_40 ?_
      refine g_iadd_i d_M_wayOf_45 ?_
      refine g_ireturn_i rfl d_M_wayOf_46 ?_
      exact g_qi hQ (by unfold wayZ; (repeat' split) <;> omega)

theorem c_M_keptOf {E : gE} {w : gW} {im : gIm} {Q : gQ} {f : Nat → Int} {m : Int → Int} (hm : MR E w f m) {x : Int} (rx : 0 ≤ x ∧ x < 20) (hQ : Q (.inl (some (.int (iI (m (461 + 5 * x + 4) - m (461 + 5 * x + 3)))))) w im) : GM E 1 y_M_keptOf m_M_keptOf 0 0 [.ref (gad E 62), .int (iI x)] w im Q := by
  obtain ⟨hn, u2, u3⟩ := id hm
  have k2 : g_cell E w im (gad E 62) _ := g_mut 62 (by omega) u2
  have k3 : g_cell E w im (gad E 63) _ := g_mut 63 (by omega) u3
  refine g_enter (by decide) rfl rfl (fun h => by first | rfl | cases h) (Nat.le_of_ble_eq_true rfl) rfl ?_
  refine g_aload_n (n := 0) (i := 0) rfl rfl d_M_keptOf_0 ?_
  refine g_iload_n (n := 1) (i := 1) rfl rfl d_M_keptOf_1 ?_
  refine g_iconst_i d_M_keptOf_2 ?_
  refine g_callV2 rfl rfl e_M_c l_M_90 iv_M_c 9 (by decide) rfl (by assumption) (by decide) (Nat.zero_le _) (Nat.zero_le _) (Nat.le_of_ble_eq_true rfl) d_M_keptOf_3 (c_M_c hm (by omega) (by omega) ?_)
  refine g_ret ?_
  refine g_aload_n (n := 0) (i := 0) rfl rfl d_M_keptOf_6 ?_
  refine g_iload_n (n := 1) (i := 1) rfl rfl d_M_keptOf_7 ?_
  refine g_iconst_i d_M_keptOf_8 ?_
  refine g_callV2 rfl rfl e_M_c l_M_90 iv_M_c 9 (by decide) rfl (by assumption) (by decide) (Nat.zero_le _) (Nat.zero_le _) (Nat.le_of_ble_eq_true rfl) d_M_keptOf_9 (c_M_c hm (by omega) (by omega) ?_)
  refine g_ret ?_
  refine g_isub_i d_M_keptOf_12 ?_
  refine g_ireturn_i rfl d_M_keptOf_13 ?_
  exact hQ

theorem c_M_isGone {E : gE} {w : gW} {im : gIm} {Q : gQ} {f : Nat → Int} {m : Int → Int} (hm : MR E w f m) (ok : okM m) {x : Int} (rx : 0 ≤ x ∧ x < m 3) (hQ1 : (1 < m (461 + 5 * x + 1)) → Q (.inl (some (.int (iI 1)))) w im) (hQ2 : ¬ (1 < m (461 + 5 * x + 1)) → Q (.inl (some (.int (iI 0)))) w im) : GM E 1 y_M_isGone m_M_isGone 0 0 [.ref (gad E 62), .int (iI x)] w im Q := by
  obtain ⟨hn, u2, u3⟩ := id hm
  have k2 : g_cell E w im (gad E 62) _ := g_mut 62 (by omega) u2
  have k3 : g_cell E w im (gad E 63) _ := g_mut 63 (by omega) u3
  obtain ⟨z0, z1, z2, z3, z4, z5, z6, z7, z8, z9⟩ := id ok
  have zx := z8 x rx
  refine g_enter (by decide) rfl rfl (fun h => by first | rfl | cases h) (Nat.le_of_ble_eq_true rfl) rfl ?_
  refine g_aload_n (n := 0) (i := 0) rfl rfl d_M_isGone_0 ?_
  refine g_iload_n (n := 1) (i := 1) rfl rfl d_M_isGone_1 ?_
  refine g_iconst_i d_M_isGone_2 ?_
  refine g_callV2 rfl rfl e_M_c l_M_90 iv_M_c 9 (by decide) rfl (by assumption) (by decide) (Nat.zero_le _) (Nat.zero_le _) (Nat.le_of_ble_eq_true rfl) d_M_isGone_3 (c_M_c hm (by omega) (by omega) ?_)
  refine g_ret ?_
  refine g_iconst_i d_M_isGone_6 ?_
  refine g_icmp_le_i (tgt := 14) (by omega) (by decide) d_M_isGone_7 (by decide) (fun h7 => ?_) (fun h7 => ?_)
  · refine g_iconst_i d_M_isGone_14 ?_
    refine g_ireturn_0 rfl d_M_isGone_15 ?_
    first | exact hQ1 (by omega) | exact hQ2 (by omega)
  · refine g_iconst_i d_M_isGone_10 ?_
    refine g_goto (tgt := 15) (by decide) d_M_isGone_11 ?_
    refine g_ireturn_1 rfl d_M_isGone_15 ?_
    first | exact hQ1 (by omega) | exact hQ2 (by omega)

theorem c_M_stateProblem {E : gE} {w : gW} {im : gIm} {Q : gQ} {f : Nat → Int} {m : Int → Int} (hm : MR E w f m) (ok : okM m) {x : Int} (rx : -2147483648 ≤ x ∧ x < 2147483648) (hQ : Q (.inl (some (.int (iI (if 0 ≤ x ∧ x < m 3 then (if 1 < m (461 + 5 * x + 1) then 2 else 0) else 1))))) w im) : GM E 2 y_M_stateProblem m_M_stateProblem 0 0 [.ref (gad E 62), .int (iI x)] w im Q := by
  obtain ⟨hn, u2, u3⟩ := id hm
  have k2 : g_cell E w im (gad E 62) _ := g_mut 62 (by omega) u2
  have k3 : g_cell E w im (gad E 63) _ := g_mut 63 (by omega) u3
  obtain ⟨z0, z1, z2, z3, z4, z5, z6, z7, z8, z9⟩ := id ok
  refine g_enter (by decide) rfl rfl (fun h => by first | rfl | cases h) (Nat.le_of_ble_eq_true rfl) rfl ?_
  refine g_aload_n (n := 0) (i := 0) rfl rfl d_M_stateProblem_0 ?_
  refine g_iload_n (n := 1) (i := 1) rfl rfl d_M_stateProblem_1 ?_
  refine g_callV1 rfl rfl e_M_isCard l_M_148 iv_M_isCard 9 (by decide) rfl (by assumption) (by decide) (Nat.zero_le _) (Nat.zero_le _) (Nat.le_of_ble_eq_true rfl) d_M_stateProblem_2 (c_M_isCard hm ok rx (fun hB => ?_) (fun hB => ?_))
  · refine g_ret ?_
    refine g_if_ne_i (tgt := 12) (by decide) d_M_stateProblem_5 (by decide) (fun h5 => ?_) (fun h => absurd h (by decide))
    refine g_aload_n (n := 0) (i := 0) rfl rfl d_M_stateProblem_12 ?_
    refine g_iload_n (n := 1) (i := 1) rfl rfl d_M_stateProblem_13 ?_
    refine g_callV1 rfl rfl e_M_isGone l_M_154 iv_M_isGone 9 (by decide) rfl (by assumption) (by decide) (Nat.zero_le _) (Nat.zero_le _) (Nat.le_of_ble_eq_true rfl) d_M_stateProblem_14 (c_M_isGone hm ok (by omega) (fun hG => ?_) (fun hG => ?_))
    · refine g_ret ?_
      refine g_if_eq_i (tgt := 24) (by decide) d_M_stateProblem_17 (by decide) (fun h => absurd h (by decide)) (fun h17 => ?_)
      refine g_iconst_i d_M_stateProblem_20 ?_
      refine g_goto (tgt := 25) (by decide) d_M_stateProblem_21 ?_
      refine g_ireturn_i rfl d_M_stateProblem_25 ?_
      exact g_qi hQ (by first | rw [if_neg hB] | rw [if_pos hB, if_pos hG] | rw [if_pos hB, if_neg hG])
    · refine g_ret ?_
      refine g_if_eq_i (tgt := 24) (by decide) d_M_stateProblem_17 (by decide) (fun h17 => ?_) (fun h => absurd h (by decide))
      refine g_iconst_i d_M_stateProblem_24 ?_
      refine g_ireturn_i rfl d_M_stateProblem_25 ?_
      exact g_qi hQ (by first | rw [if_neg hB] | rw [if_pos hB, if_pos hG] | rw [if_pos hB, if_neg hG])
  · refine g_ret ?_
    refine g_if_ne_i (tgt := 12) (by decide) d_M_stateProblem_5 (by decide) (fun h => absurd h (by decide)) (fun h5 => ?_)
    refine g_iconst_i d_M_stateProblem_8 ?_
    refine g_goto (tgt := 25) (by decide) d_M_stateProblem_9 ?_
    refine g_ireturn_i rfl d_M_stateProblem_25 ?_
    exact g_qi hQ (by first | rw [if_neg hB] | rw [if_pos hB, if_pos hG] | rw [if_pos hB, if_neg hG])

