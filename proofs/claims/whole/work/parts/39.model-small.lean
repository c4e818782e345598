/-! ===== the reference: its cells, its small methods ===== -/
/-- the object of the reference: f says its numbers by their places -/
abbrev mE (E : gE) (f : Nat → Int) : gA := .inr (9, [.ref (gad E 63), .ref (gad E 64), .int (iI (f 2)), .ref (gad E 65), .int (iI (f 4)), .ref (gad E 66), .int (iI (f 6)), .int (iI (f 7)), .int (iI (f 8)), .int (iI (f 9)), .ref (gad E 67), .int (iI (f 11)), .int (iI (f 12)), .int (iI (f 13)), .int (iI (f 14)), .int (iI (f 15)), .int (iI (f 16)), .int (iI (f 17))])
def fU (f : Nat → Int) (k : Nat) (v : Int) : Nat → Int := fun j => if j = k then v else f j
/-- the object and the row of what is now -/
def MR (E : gE) (w : gW) (f : Nat → Int) (m : Int → Int) : Prop := gN E = 70 ∧ w 62 = mE E f ∧ w 63 = intE 3561 m
/-- the numbers of a row are in their ranges -/
def okM (m : Int → Int) : Prop := (480 ≤ m 0 ∧ m 0 ≤ 43200) ∧ (0 ≤ m 1 ∧ m 1 ≤ 12) ∧ (0 ≤ m 2 ∧ m 2 ≤ 8) ∧ (0 ≤ m 3 ∧ m 3 ≤ 20) ∧ (0 ≤ m 4 ∧ m 4 ≤ 600) ∧ (∀ j, 0 ≤ j ∧ j < 3561 → -1 ≤ m j ∧ m j ≤ 1000000) ∧
  (∀ i, 0 ≤ i ∧ i < m 1 → (0 ≤ m (5 + 34 * i + 0) ∧ m (5 + 34 * i + 0) ≤ 3) ∧ (0 ≤ m (5 + 34 * i + 1) ∧ m (5 + 34 * i + 1) ≤ 99) ∧ (0 ≤ m (5 + 34 * i + 2) ∧ m (5 + 34 * i + 2) ≤ 1)) ∧
  (∀ i, 0 ≤ i ∧ i < m 2 → (0 ≤ m (413 + 6 * i + 0) ∧ m (413 + 6 * i + 0) ≤ 2) ∧ (1 ≤ m (413 + 6 * i + 1) ∧ m (413 + 6 * i + 1) ≤ 9) ∧ (0 ≤ m (413 + 6 * i + 2) ∧ m (413 + 6 * i + 2) ≤ 23) ∧ (0 ≤ m (413 + 6 * i + 3) ∧ m (413 + 6 * i + 3) ≤ 23) ∧ (1 ≤ m (413 + 6 * i + 4) ∧ m (413 + 6 * i + 4) ≤ 15) ∧ (1 ≤ m (413 + 6 * i + 5) ∧ m (413 + 6 * i + 5) ≤ 9999)) ∧
  (∀ i, 0 ≤ i ∧ i < m 3 → (0 ≤ m (461 + 5 * i + 0) ∧ m (461 + 5 * i + 0) < m 2) ∧ (0 ≤ m (461 + 5 * i + 1) ∧ m (461 + 5 * i + 1) ≤ 3) ∧ (m (461 + 5 * i + 2) = -1 ∨ (i < m (461 + 5 * i + 2) ∧ m (461 + 5 * i + 2) < m 3)) ∧ (0 ≤ m (461 + 5 * i + 3) ∧ m (461 + 5 * i + 3) ≤ 400000) ∧ (0 ≤ m (461 + 5 * i + 4) ∧ m (461 + 5 * i + 4) ≤ 9999)) ∧
  (∀ k, 0 ≤ k ∧ k < m 4 → (0 ≤ m (561 + 3 * k + 0) ∧ m (561 + 3 * k + 0) < m 3) ∧ (0 ≤ m (561 + 3 * k + 1) ∧ m (561 + 3 * k + 1) < m 1) ∧ (0 ≤ m (561 + 3 * k + 2) ∧ m (561 + 3 * k + 2) ≤ 43200))

theorem c_M_isIn {E : gE} {w : gW} {im : gIm} {Q : gQ} {a b c : Int} (ra : -2147483648 ≤ a ∧ a < 2147483648) (rb : -2147483648 ≤ b ∧ b < 2147483648) (rc : -2147483648 ≤ c ∧ c < 2147483648) (hQ1 : (b ≤ a ∧ a ≤ c) → Q (.inl (some (.int (iI 1)))) w im) (hQ2 : ¬ (b ≤ a ∧ a ≤ c) → Q (.inl (some (.int (iI 0)))) w im) : GM E 0 y_M_isIn m_M_isIn 0 0 [.int (iI a), .int (iI b), .int (iI c)] w im Q := by
  refine g_enter (by decide) rfl rfl (fun h => by first | rfl | cases h) (Nat.le_of_ble_eq_true rfl) rfl ?_
  refine g_iload_n (n := 0) (i := 0) rfl rfl d_M_isIn_0 ?_
  refine g_iload_n (n := 1) (i := 1) rfl rfl d_M_isIn_1 ?_
  refine g_icmp_lt_i (tgt := 14) (by omega) (by omega) d_M_isIn_2 (by decide) (fun h2 => ?_) (fun h2 => ?_)
  · refine g_iconst_i d_M_isIn_14 ?_
    refine g_ireturn_0 rfl d_M_isIn_15 ?_
    first | exact hQ1 (by omega) | exact hQ2 (by omega)
  · refine g_iload_n (n := 0) (i := 0) rfl rfl d_M_isIn_5 ?_
    refine g_iload_n (n := 2) (i := 2) rfl rfl d_M_isIn_6 ?_
    refine g_icmp_gt_i (tgt := 14) (by omega) (by omega) d_M_isIn_7 (by decide) (fun h7 => ?_) (fun h7 => ?_)
    · refine g_iconst_i d_M_isIn_14 ?_
      refine g_ireturn_0 rfl d_M_isIn_15 ?_
      first | exact hQ1 (by omega) | exact hQ2 (by omega)
    · refine g_iconst_i d_M_isIn_10 ?_
      refine g_goto (tgt := 15) (by decide) d_M_isIn_11 ?_
      refine g_ireturn_1 rfl d_M_isIn_15 ?_
      first | exact hQ1 (by omega) | exact hQ2 (by omega)

theorem c_M_has {E : gE} {w : gW} {im : gIm} {Q : gQ} {a b : Int} (r : (0 ≤ a ∧ a < 2147483648) ∧ (0 ≤ b ∧ b < 31)) (hQ1 : (tb a b = true) → Q (.inl (some (.int (iI 1)))) w im) (hQ2 : ¬ (tb a b = true) → Q (.inl (some (.int (iI 0)))) w im) : GM E 0 y_M_has m_M_has 0 0 [.int (iI a), .int (iI b)] w im Q := by
  refine g_enter (by decide) rfl rfl (fun h => by first | rfl | cases h) (Nat.le_of_ble_eq_true rfl) rfl ?_
  refine g_iload_n (n := 0) (i := 0) rfl rfl d_M_has_0 ?_
  refine g_iload_n (n := 1) (i := 1) rfl rfl d_M_has_1 ?_
  refine g_ishr d_M_has_2 ?_
  refine g_iconst_i d_M_has_3 ?_
  refine g_iand d_M_has_4 ?_
  rw [bit_z r.1 r.2]
  refine g_iconst_i d_M_has_5 ?_
  refine g_icmp_ne_i (tgt := 13) (by first | omega | exact iI_if1) (by decide) d_M_has_6 (by decide) (fun h6 => ?_) (fun h6 => ?_)
  · refine g_iconst_i d_M_has_13 ?_
    refine g_ireturn_0 rfl d_M_has_14 ?_
    first | exact hQ1 (by unfold tb; by_cases hz9 : a.toNat.testBit b.toNat = true <;> simp_all) | exact hQ2 (by unfold tb; by_cases hz9 : a.toNat.testBit b.toNat = true <;> simp_all)
  · refine g_iconst_i d_M_has_9 ?_
    refine g_goto (tgt := 14) (by decide) d_M_has_10 ?_
    refine g_ireturn_1 rfl d_M_has_14 ?_
    first | exact hQ1 (by unfold tb; by_cases hz9 : a.toNat.testBit b.toNat = true <;> simp_all) | exact hQ2 (by unfold tb; by_cases hz9 : a.toNat.testBit b.toNat = true <;> simp_all)

theorem c_M_c {E : gE} {w : gW} {im : gIm} {Q : gQ} {f : Nat → Int} {m : Int → Int} (hm : MR E w f m) {x y : Int} (rx : 0 ≤ x ∧ x < 20) (ry : 0 ≤ y ∧ y < 5) (hQ : Q (.inl (some (.int (iI (m (461 + 5 * x + y)))))) w im) : GM E 0 y_M_c m_M_c 0 0 [.ref (gad E 62), .int (iI x), .int (iI y)] w im Q := by
  obtain ⟨hn, u2, u3⟩ := id hm
  have k2 : g_cell E w im (gad E 62) _ := g_mut 62 (by omega) u2
  have k3 : g_cell E w im (gad E 63) _ := g_mut 63 (by omega) u3
  refine g_enter (by decide) rfl rfl (fun h => by first | rfl | cases h) (Nat.le_of_ble_eq_true rfl) rfl ?_
  refine g_aload_n (n := 0) (i := 0) rfl rfl d_M_c_0 ?_
  refine g_getfield 9 0 f_M_9 (by assumption) (by rfl) d_M_c_1 ?_
  refine g_sipush_i (by decide) d_M_c_4 ?_
  refine g_iconst_i d_M_c_7 ?_
  refine g_iload_n (n := 1) (i := 1) rfl rfl d_M_c_8 ?_
  refine g_imul_i d_M_c_9 ?_
  refine g_iadd_i d_M_c_10 ?_
  refine g_iload_n (n := 2) (i := 2) rfl rfl d_M_c_11 ?_
  refine g_iadd_i d_M_c_12 ?_
  refine g_iaload_i (by assumption) (by omega) (by omega) (by rfl) d_M_c_13 ?_
  refine g_ireturn_i rfl d_M_c_14 ?_
  exact hQ

theorem c_M_g {E : gE} {w : gW} {im : gIm} {Q : gQ} {f : Nat → Int} {m : Int → Int} (hm : MR E w f m) {x y : Int} (rx : 0 ≤ x ∧ x < 12) (ry : 0 ≤ y ∧ y < 34) (hQ : Q (.inl (some (.int (iI (m (5 + 34 * x + y)))))) w im) : GM E 0 y_M_g m_M_g 0 0 [.ref (gad E 62), .int (iI x), .int (iI y)] w im Q := by
  obtain ⟨hn, u2, u3⟩ := id hm
  have k2 : g_cell E w im (gad E 62) _ := g_mut 62 (by omega) u2
  have k3 : g_cell E w im (gad E 63) _ := g_mut 63 (by omega) u3
  refine g_enter (by decide) rfl rfl (fun h => by first | rfl | cases h) (Nat.le_of_ble_eq_true rfl) rfl ?_
  refine g_aload_n (n := 0) (i := 0) rfl rfl d_M_g_0 ?_
  refine g_getfield 9 0 f_M_9 (by assumption) (by rfl) d_M_g_1 ?_
  refine g_iconst_i d_M_g_4 ?_
  refine g_bipush_i (by decide) d_M_g_5 ?_
  refine g_iload_n (n := 1) (i := 1) rfl rfl d_M_g_7 ?_
  refine g_imul_i d_M_g_8 ?_
  refine g_iadd_i d_M_g_9 ?_
  refine g_iload_n (n := 2) (i := 2) rfl rfl d_M_g_10 ?_
  refine g_iadd_i d_M_g_11 ?_
  refine g_iaload_i (by assumption) (by omega) (by omega) (by rfl) d_M_g_12 ?_
  refine g_ireturn_i rfl d_M_g_13 ?_
  exact hQ

theorem c_M_p {E : gE} {w : gW} {im : gIm} {Q : gQ} {f : Nat → Int} {m : Int → Int} (hm : MR E w f m) {x y : Int} (rx : 0 ≤ x ∧ x < 8) (ry : 0 ≤ y ∧ y < 6) (hQ : Q (.inl (some (.int (iI (m (413 + 6 * x + y)))))) w im) : GM E 0 y_M_p m_M_p 0 0 [.ref (gad E 62), .int (iI x), .int (iI y)] w im Q := by
  obtain ⟨hn, u2, u3⟩ := id hm
  have k2 : g_cell E w im (gad E 62) _ := g_mut 62 (by omega) u2
  have k3 : g_cell E w im (gad E 63) _ := g_mut 63 (by omega) u3
  refine g_enter (by decide) rfl rfl (fun h => by first | rfl | cases h) (Nat.le_of_ble_eq_true rfl) rfl ?_
  refine g_aload_n (n := 0) (i := 0) rfl rfl d_M_p_0 ?_
  refine g_getfield 9 0 f_M_9 (by assumption) (by rfl) d_M_p_1 ?_
  refine g_sipush_i (by decide) d_M_p_4 ?_
  refine g_bipush_i (by decide) d_M_p_7 ?_
  refine g_iload_n (n := 1) (i := 1) rfl rfl d_M_p_9 ?_
  refine g_imul_i d_M_p_10 ?_
  refine g_iadd_i d_M_p_11 ?_
  refine g_iload_n (n := 2) (i := 2) rfl rfl d_M_p_12 ?_
  refine g_iadd_i d_M_p_13 ?_
  refine g_iaload_i (by assumption) (by omega) (by omega) (by rfl) d_M_p_14 ?_
  refine g_ireturn_i rfl d_M_p_15 ?_
  exact hQ

theorem c_M_rideOf {E : gE} {w : gW} {im : gIm} {Q : gQ} {f : Nat → Int} {m : Int → Int} (hm : MR E w f m) {x y : Int} (rx : 0 ≤ x ∧ x < 1000) (ry : 0 ≤ y ∧ y < 3) (hQ : Q (.inl (some (.int (iI (m (561 + 3 * x + y)))))) w im) : GM E 0 y_M_rideOf m_M_rideOf 0 0 [.ref (gad E 62), .int (iI x), .int (iI y)] w im Q := by
  obtain ⟨hn, u2, u3⟩ := id hm
  have k2 : g_cell E w im (gad E 62) _ := g_mut 62 (by omega) u2
  have k3 : g_cell E w im (gad E 63) _ := g_mut 63 (by omega) u3
  refine g_enter (by decide) rfl rfl (fun h => by first | rfl | cases h) (Nat.le_of_ble_eq_true rfl) rfl ?_
  refine g_aload_n (n := 0) (i := 0) rfl rfl d_M_rideOf_0 ?_
  refine g_getfield 9 0 f_M_9 (by assumption) (by rfl) d_M_rideOf_1 ?_
  refine g_sipush_i (by decide) d_M_rideOf_4 ?_
  refine g_iconst_i d_M_rideOf_7 ?_
  refine g_iload_n (n := 1) (i := 1) rfl rfl d_M_rideOf_8 ?_
  refine g_imul_i d_M_rideOf_9 ?_
  refine g_iadd_i d_M_rideOf_10 ?_
  refine g_iload_n (n := 2) (i := 2) rfl rfl d_M_rideOf_11 ?_
  refine g_iadd_i d_M_rideOf_12 ?_
  refine g_iaload_i (by assumption) (by omega) (by omega) (by rfl) d_M_rideOf_13 ?_
  refine g_ireturn_i rfl d_M_rideOf_14 ?_
  exact hQ

theorem c_M_isGate {E : gE} {w : gW} {im : gIm} {Q : gQ} {f : Nat → Int} {m : Int → Int} (hm : MR E w f m) (ok : okM m) {x : Int} (rx : -2147483648 ≤ x ∧ x < 2147483648) (hQ1 : (0 ≤ x ∧ x < m 1) → Q (.inl (some (.int (iI 1)))) w im) (hQ2 : ¬ (0 ≤ x ∧ x < m 1) → Q (.inl (some (.int (iI 0)))) w im) : GM E 1 y_M_isGate m_M_isGate 0 0 [.ref (gad E 62), .int (iI x)] w im Q := by
  obtain ⟨hn, u2, u3⟩ := id hm
  have k2 : g_cell E w im (gad E 62) _ := g_mut 62 (by omega) u2
  have k3 : g_cell E w im (gad E 63) _ := g_mut 63 (by omega) u3
  obtain ⟨z0, z1, z2, z3, z4, z5, z6, z7, z8, z9⟩ := id ok
  refine g_enter (by decide) rfl rfl (fun h => by first | rfl | cases h) (Nat.le_of_ble_eq_true rfl) rfl ?_
  refine g_iload_n (n := 1) (i := 1) rfl rfl d_M_isGate_0 ?_
  refine g_iconst_i d_M_isGate_1 ?_
  refine g_aload_n (n := 0) (i := 0) rfl rfl d_M_isGate_2 ?_
  refine g_getfield 9 0 f_M_9 (by assumption) (by rfl) d_M_isGate_3 ?_
  refine g_iconst_i d_M_isGate_6 ?_
  refine g_iaload_i (by assumption) (by omega) (by omega) (by rfl) d_M_isGate_7 ?_
  refine g_iconst_i d_M_isGate_8 ?_
  refine g_isub_i d_M_isGate_9 ?_
  refine g_callS3 rfl rfl e_M_isIn l_M_45 st_M_isIn (by decide) (Nat.zero_le _) (Nat.zero_le _) (Nat.le_of_ble_eq_true rfl) d_M_isGate_10 (c_M_isIn (by omega) (by omega) (by omega) (fun hB => ?_) (fun hB => ?_))
  · refine g_ret ?_
    refine g_ireturn_1 rfl d_M_isGate_13 ?_
    first | exact hQ1 ⟨by omega, by omega⟩ | exact hQ2 (fun h => hB ⟨by omega, by omega⟩)
  · refine g_ret ?_
    refine g_ireturn_0 rfl d_M_isGate_13 ?_
    first | exact hQ1 ⟨by omega, by omega⟩ | exact hQ2 (fun h => hB ⟨by omega, by omega⟩)

theorem c_M_isProduct {E : gE} {w : gW} {im : gIm} {Q : gQ} {f : Nat → Int} {m : Int → Int} (hm : MR E w f m) (ok : okM m) {x : Int} (rx : -2147483648 ≤ x ∧ x < 2147483648) (hQ1 : (0 ≤ x ∧ x < m 2) → Q (.inl (some (.int (iI 1)))) w im) (hQ2 : ¬ (0 ≤ x ∧ x < m 2) → Q (.inl (some (.int (iI 0)))) w im) : GM E 1 y_M_isProduct m_M_isProduct 0 0 [.ref (gad E 62), .int (iI x)] w im Q := by
  obtain ⟨hn, u2, u3⟩ := id hm
  have k2 : g_cell E w im (gad E 62) _ := g_mut 62 (by omega) u2
  have k3 : g_cell E w im (gad E 63) _ := g_mut 63 (by omega) u3
  obtain ⟨z0, z1, z2, z3, z4, z5, z6, z7, z8, z9⟩ := id ok
  refine g_enter (by decide) rfl rfl (fun h => by first | rfl | cases h) (Nat.le_of_ble_eq_true rfl) rfl ?_
  refine g_iload_n (n := 1) (i := 1) rfl rfl d_M_isProduct_0 ?_
  refine g_iconst_i d_M_isProduct_1 ?_
  refine g_aload_n (n := 0) (i := 0) rfl rfl d_M_isProduct_2 ?_
  refine g_getfield 9 0 f_M_9 (by assumption) (by rfl) d_M_isProduct_3 ?_
  refine g_iconst_i d_M_isProduct_6 ?_
  refine g_iaload_i (by assumption) (by omega) (by omega) (by rfl) d_M_isProduct_7 ?_
  refine g_iconst_i d_M_isProduct_8 ?_
  refine g_isub_i d_M_isProduct_9 ?_
  refine g_callS3 rfl rfl e_M_isIn l_M_45 st_M_isIn (by decide) (Nat.zero_le _) (Nat.zero_le _) (Nat.le_of_ble_eq_true rfl) d_M_isProduct_10 (c_M_isIn (by omega) (by omega) (by omega) (fun hB => ?_) (fun hB => ?_))
  · refine g_ret ?_
    refine g_ireturn_1 rfl d_M_isProduct_13 ?_
    first | exact hQ1 ⟨by omega, by omega⟩ | exact hQ2 (fun h => hB ⟨by omega, by omega⟩)
  · refine g_ret ?_
    refine g_ireturn_0 rfl d_M_isProduct_13 ?_
    first | exact hQ1 ⟨by omega, by omega⟩ | exact hQ2 (fun h => hB ⟨by omega, by omega⟩)

theorem c_M_isCard {E : gE} {w : gW} {im : gIm} {Q : gQ} {f : Nat → Int} {m : Int → Int} (hm : MR E w f m) (ok : okM m) {x : Int} (rx : -2147483648 ≤ x ∧ x < 2147483648) (hQ1 : (0 ≤ x ∧ x < m 3) → Q (.inl (some (.int (iI 1)))) w im) (hQ2 : ¬ (0 ≤ x ∧ x < m 3) → Q (.inl (some (.int (iI 0)))) w im) : GM E 1 y_M_isCard m_M_isCard 0 0 [.ref (gad E 62), .int (iI x)] w im Q := by
  obtain ⟨hn, u2, u3⟩ := id hm
  have k2 : g_cell E w im (gad E 62) _ := g_mut 62 (by omega) u2
  have k3 : g_cell E w im (gad E 63) _ := g_mut 63 (by omega) u3
  obtain ⟨z0, z1, z2, z3, z4, z5, z6, z7, z8, z9⟩ := id ok
  refine g_enter (by decide) rfl rfl (fun h => by first | rfl | cases h) (Nat.le_of_ble_eq_true rfl) rfl ?_
  refine g_iload_n (n := 1) (i := 1) rfl rfl d_M_isCard_0 ?_
  refine g_iconst_i d_M_isCard_1 ?_
  refine g_aload_n (n := 0) (i := 0) rfl rfl d_M_isCard_2 ?_
  refine g_getfield 9 0 f_M_9 (by assumption) (by rfl) d_M_isCard_3 ?_
  refine g_iconst_i d_M_isCard_6 ?_
  refine g_iaload_i (by assumption) (by omega) (by omega) (by rfl) d_M_isCard_7 ?_
  refine g_iconst_i d_M_isCard_8 ?_
  refine g_isub_i d_M_isCard_9 ?_
  refine g_callS3 rfl rfl e_M_isIn l_M_45 st_M_isIn (by decide) (Nat.zero_le _) (Nat.zero_le _) (Nat.le_of_ble_eq_true rfl) d_M_isCard_10 (c_M_isIn (by omega) (by omega) (by omega) (fun hB => ?_) (fun hB => ?_))
  · refine g_ret ?_
    refine g_ireturn_1 rfl d_M_isCard_13 ?_
    first | exact hQ1 ⟨by omega, by omega⟩ | exact hQ2 (fun h => hB ⟨by omega, by omega⟩)
  · refine g_ret ?_
    refine g_ireturn_0 rfl d_M_isCard_13 ?_
    first | exact hQ1 ⟨by omega, by omega⟩ | exact hQ2 (fun h => hB ⟨by omega, by omega⟩)

theorem c_M_today {E : gE} {w : gW} {im : gIm} {Q : gQ} {f : Nat → Int} {m : Int → Int} (hm : MR E w f m) (ok : okM m) (hQ : Q (.inl (some (.int (iI (m 0 / 1440))))) w im) : GM E 0 y_M_today m_M_today 0 0 [.ref (gad E 62)] w im Q := by
  obtain ⟨hn, u2, u3⟩ := id hm
  have k2 : g_cell E w im (gad E 62) _ := g_mut 62 (by omega) u2
  have k3 : g_cell E w im (gad E 63) _ := g_mut 63 (by omega) u3
  obtain ⟨z0, z1, z2, z3, z4, z5, z6, z7, z8, z9⟩ := id ok
  refine g_enter (by decide) rfl rfl (fun h => by first | rfl | cases h) (Nat.le_of_ble_eq_true rfl) rfl ?_
  refine g_aload_n (n := 0) (i := 0) rfl rfl d_M_today_0 ?_
  refine g_getfield 9 0 f_M_9 (by assumption) (by rfl) d_M_today_1 ?_
  refine g_iconst_i d_M_today_4 ?_
  refine g_iaload_i (by assumption) (by omega) (by omega) (by rfl) d_M_today_5 ?_
  refine g_sipush_i (by decide) d_M_today_6 ?_
  refine g_idiv_i (by omega) (by omega) d_M_today_9 ?_
  refine g_ireturn_i rfl d_M_today_10 ?_
  exact hQ

theorem c_M_hourNow {E : gE} {w : gW} {im : gIm} {Q : gQ} {f : Nat → Int} {m : Int → Int} (hm : MR E w f m) (ok : okM m) (hQ : Q (.inl (some (.int (iI (m 0 % 1440 / 60))))) w im) : GM E 0 y_M_hourNow m_M_hourNow 0 0 [.ref (gad E 62)] w im Q := by
  obtain ⟨hn, u2, u3⟩ := id hm
  have k2 : g_cell E w im (gad E 62) _ := g_mut 62 (by omega) u2
  have k3 : g_cell E w im (gad E 63) _ := g_mut 63 (by omega) u3
  obtain ⟨z0, z1, z2, z3, z4, z5, z6, z7, z8, z9⟩ := id ok
  refine g_enter (by decide) rfl rfl (fun h => by first | rfl | cases h) (Nat.le_of_ble_eq_true rfl) rfl ?_
  refine g_aload_n (n := 0) (i := 0) rfl rfl d_M_hourNow_0 ?_
  refine g_getfield 9 0 f_M_9 (by assumption) (by rfl) d_M_hourNow_1 ?_
  refine g_iconst_i d_M_hourNow_4 ?_
  refine g_iaload_i (by assumption) (by omega) (by omega) (by rfl) d_M_hourNow_5 ?_
  refine g_sipush_i (by decide) d_M_hourNow_6 ?_
  refine g_irem_i (by omega) (by omega) d_M_hourNow_9 ?_
  refine g_bipush_i (by decide) d_M_hourNow_10 ?_
  refine g_idiv_i (by omega) (by omega) d_M_hourNow_12 ?_
  refine g_ireturn_i rfl d_M_hourNow_13 ?_
  exact hQ

