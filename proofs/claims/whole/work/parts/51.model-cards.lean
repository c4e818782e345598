/-! ===== the reference: a card comes ===== -/
/-- only the row of what is now has changed -/
def MS (E : gE) (w : gW) (f : Nat → Int) (m' : Int → Int) (w' : gW) : Prop := MR E w' f m' ∧ ∀ j, j ≠ 63 → w' j = w j
theorem MS.trans {E : gE} {w w1 w2 : gW} {f : Nat → Int} {m1 m2 : Int → Int} (h : MS E w f m1 w1) (k : MS E w1 f m2 w2) : MS E w f m2 w2 := ⟨k.1, fun j hj => (k.2 j hj).trans (h.2 j hj)⟩
theorem MR.row {E : gE} {w w' : gW} {f : Nat → Int} {m m' : Int → Int} (h : MR E w f m) (hs : w' 63 = intE 3561 m') (hw : ∀ j, j ≠ 63 → w' j = w j) : MS E w f m' w' := ⟨⟨h.1, (hw 62 (by omega)).trans h.2.1, hs⟩, hw⟩
def come5 (m : Int → Int) (p c : Int) : Int → Int := uI (uI (uI (uI (uI m (461 + 5 * m 3 + 0) p) (461 + 5 * m 3 + 1) 0) (461 + 5 * m 3 + 2) (-1)) (461 + 5 * m 3 + 3) 0) (461 + 5 * m 3 + 4) c
def comeM (m : Int → Int) (p c : Int) : Int → Int := uI (come5 m p c) 3 (come5 m p c 3 + 1)

theorem c_M_setC {E : gE} {w : gW} {im : gIm} {Q : gQ} {f : Nat → Int} {m : Int → Int} (hm : MR E w f m) {x y v : Int} (rx : 0 ≤ x ∧ x < 20) (ry : 0 ≤ y ∧ y < 5) (hQ : ∀ w', MS E w f (uI m (461 + 5 * x + y) v) w' → Q (.inl none) w' im) : GM E 0 y_M_setC m_M_setC 0 0 [.ref (gad E 62), .int (iI x), .int (iI y), .int (iI v)] w im Q := by
  obtain ⟨hn, u2, u3⟩ := id hm
  have k2 : g_cell E w im (gad E 62) _ := g_mut 62 (by omega) u2
  have k3 : g_cell E w im (gad E 63) _ := g_mut 63 (by omega) u3
  refine g_enter (by decide) rfl rfl (fun h => by first | rfl | cases h) (Nat.le_of_ble_eq_true rfl) rfl ?_
  refine g_aload_n (n := 0) (i := 0) rfl rfl d_M_setC_0 ?_
  refine g_getfield 9 0 f_M_9 (by assumption) (by rfl) d_M_setC_1 ?_
  refine g_sipush_i (by decide) d_M_setC_4 ?_
  refine g_iconst_i d_M_setC_7 ?_
  refine g_iload_n (n := 1) (i := 1) rfl rfl d_M_setC_8 ?_
  refine g_imul_i d_M_setC_9 ?_
  refine g_iadd_i d_M_setC_10 ?_
  refine g_iload_n (n := 2) (i := 2) rfl rfl d_M_setC_11 ?_
  refine g_iadd_i d_M_setC_12 ?_
  refine g_iload_n (n := 3) (i := 3) rfl rfl d_M_setC_13 ?_
  refine g_iastoreA 63 (by omega) u3 (by omega) (by omega) (by rfl) d_M_setC_14 (fun w hs hn9 => ?_)
  refine g_return rfl d_M_setC_15 ?_
  exact hQ _ (hm.row hs hn9)

theorem c_M_comesCard {E : gE} {w : gW} {im : gIm} {Q : gQ} {f : Nat → Int} {m : Int → Int} (hm : MR E w f m) {x y : Int} (r3 : 0 ≤ m 3 ∧ m 3 < 20) (hQ : ∀ w', MS E w f (comeM m x y) w' → Q (oV (m 3)) w' im) : GM E 1 y_M_comesCard m_M_comesCard 0 0 [.ref (gad E 62), .int (iI x), .int (iI y)] w im Q := by
  obtain ⟨hn, u2, u3⟩ := id hm
  have k2 : g_cell E w im (gad E 62) _ := g_mut 62 (by omega) u2
  have k3 : g_cell E w im (gad E 63) _ := g_mut 63 (by omega) u3
  refine g_enter (by decide) rfl rfl (fun h => by first | rfl | cases h) (Nat.le_of_ble_eq_true rfl) rfl ?_
  refine g_aload_n (n := 0) (i := 0) rfl rfl d_M_comesCard_0 ?_
  refine g_getfield 9 0 f_M_9 (by assumption) (by rfl) d_M_comesCard_1 ?_
  refine g_iconst_i d_M_comesCard_4 ?_
  refine g_iaload_i (by assumption) (by omega) (by omega) (by rfl) d_M_comesCard_5 ?_
  refine g_istore_n (n := 3) (i := 3) rfl (by decide) rfl d_M_comesCard_6 ?_
  refine g_aload_n (n := 0) (i := 0) rfl rfl d_M_comesCard_7 ?_
  refine g_iload_n (n := 3) (i := 3) rfl rfl d_M_comesCard_8 ?_
  refine g_iconst_i d_M_comesCard_9 ?_
  refine g_iload_n (n := 1) (i := 1) rfl rfl d_M_comesCard_10 ?_
  refine g_callV3 rfl rfl e_M_setC l_M_126 iv_M_setC 9 (by decide) rfl (by assumption) (by decide) (Nat.zero_le _) (Nat.zero_le _) (Nat.le_of_ble_eq_true rfl) d_M_comesCard_11 (c_M_setC hm (by omega) (by omega) (fun w hS => ?_))
  refine g_retv ?_
  obtain ⟨hm, hw9⟩ := id hS
  obtain ⟨hn, u2, u3⟩ := id hm
  have k2 : g_cell E w im (gad E 62) _ := g_mut 62 (by omega) u2
  have k3 : g_cell E w im (gad E 63) _ := g_mut 63 (by omega) u3
  have hA := hS
  refine g_aload_n (n := 0) (i := 0) rfl rfl d_M_comesCard_14 ?_
  refine g_iload_n (n := 3) (i := 3) rfl rfl d_M_comesCard_15 ?_
  refine g_iconst_i d_M_comesCard_16 ?_
  refine g_iconst_i d_M_comesCard_17 ?_
  refine g_callV3 rfl rfl e_M_setC l_M_126 iv_M_setC 9 (by decide) rfl (by assumption) (by decide) (Nat.zero_le _) (Nat.zero_le _) (Nat.le_of_ble_eq_true rfl) d_M_comesCard_18 (c_M_setC hm (by omega) (by omega) (fun w hS => ?_))
  refine g_retv ?_
  obtain ⟨hm, hw9⟩ := id hS
  obtain ⟨hn, u2, u3⟩ := id hm
  have k2 : g_cell E w im (gad E 62) _ := g_mut 62 (by omega) u2
  have k3 : g_cell E w im (gad E 63) _ := g_mut 63 (by omega) u3
  have hA := hA.trans hS
  refine g_aload_n (n := 0) (i := 0) rfl rfl d_M_comesCard_21 ?_
  refine g_iload_n (n := 3) (i := 3) rfl rfl d_M_comesCard_22 ?_
  refine g_iconst_i d_M_comesCard_23 ?_
  refine g_iconst_i d_M_comesCard_24 ?_
  refine g_callV3 rfl rfl e_M_setC l_M_126 iv_M_setC 9 (by decide) rfl (by assumption) (by decide) (Nat.zero_le _) (Nat.zero_le _) (Nat.le_of_ble_eq_true rfl) d_M_comesCard_25 (c_M_setC hm (by omega) (by omega) (fun w hS => ?_))
  refine g_retv ?_
  obtain ⟨hm, hw9⟩ := id hS
  obtain ⟨hn, u2, u3⟩ := id hm
  have k2 : g_cell E w im (gad E 62) _ := g_mut 62 (by omega) u2
  have k3 : g_cell E w im (gad E 63) _ := g_mut 63 (by omega) u3
  have hA := hA.trans hS
  refine g_aload_n (n := 0) (i := 0) rfl rfl d_M_comesCard_28 ?_
  refine g_iload_n (n := 3) (i := 3) rfl rfl d_M_comesCard_29 ?_
  refine g_iconst_i d_M_comesCard_30 ?_
  refine g_iconst_i d_M_comesCard_31 ?_
  refine g_callV3 rfl rfl e_M_setC l_M_126 iv_M_setC 9 (by decide) rfl (by assumption) (by decide) (Nat.zero_le _) (Nat.zero_le _) (Nat.le_of_ble_eq_true rfl) d_M_comesCard_32 (c_M_setC hm (by omega) (by omega) (fun w hS => ?_))
  refine g_retv ?_
  obtain ⟨hm, hw9⟩ := id hS
  obtain ⟨hn, u2, u3⟩ := id hm
  have k2 : g_cell E w im (gad E 62) _ := g_mut 62 (by omega) u2
  have k3 : g_cell E w im (gad E 63) _ := g_mut 63 (by omega) u3
  have hA := hA.trans hS
  refine g_aload_n (n := 0) (i := 0) rfl rfl d_M_comesCard_35 ?_
  refine g_iload_n (n := 3) (i := 3) rfl rfl d_M_comesCard_36 ?_
  refine g_iconst_i d_M_comesCard_37 ?_
  refine g_iload_n (n := 2) (i := 2) rfl rfl d_M_comesCard_38 ?_
  refine g_callV3 rfl rfl e_M_setC l_M_126 iv_M_setC 9 (by decide) rfl (by assumption) (by decide) (Nat.zero_le _) (Nat.zero_le _) (Nat.le_of_ble_eq_true rfl) d_M_comesCard_39 (c_M_setC hm (by omega) (by omega) (fun w hS => ?_))
  refine g_retv ?_
  obtain ⟨hm, hw9⟩ := id hS
  obtain ⟨hn, u2, u3⟩ := id hm
  have k2 : g_cell E w im (gad E 62) _ := g_mut 62 (by omega) u2
  have k3 : g_cell E w im (gad E 63) _ := g_mut 63 (by omega) u3
  have hA := hA.trans hS
  refine g_aload_n (n := 0) (i := 0) rfl rfl d_M_comesCard_42 ?_
  refine g_getfield 9 0 f_M_9 (by assumption) (by rfl) d_M_comesCard_43 ?_
  refine g_iconst_i d_M_comesCard_46 ?_
  refine g_dup2 rfl rfl d_M_comesCard_47 ?_
  refine g_iaload_i (by assumption) (by omega) (by omega) (by rfl) d_M_comesCard_48 ?_
  refine g_iconst_i d_M_comesCard_49 ?_
  refine g_iadd_i d_M_comesCard_50 ?_
  refine g_iastoreA 63 (by omega) u3 (by omega) (by omega) (by rfl) d_M_comesCard_51 (fun w hs hn9 => ?_)
  refine g_iload_n (n := 3) (i := 3) rfl rfl d_M_comesCard_52 ?_
  refine g_ireturn_i rfl d_M_comesCard_53 ?_
  exact hQ _ (hA.trans (hm.row hs hn9))

theorem c_M_sellProblem {E : gE} {w : gW} {im : gIm} {Q : gQ} {f : Nat → Int} {m : Int → Int} (hm : MR E w f m) (ok : okM m) {x : Int} (rx : -2147483648 ≤ x ∧ x < 2147483648) (hQ : Q (.inl (some (.int (iI (if 0 ≤ x ∧ x < m 2 then (if m 3 = 20 then 2 else 0) else 1))))) w im) : GM E 2 y_M_sellProblem m_M_sellProblem 0 0 [.ref (gad E 62), .int (iI x)] w im Q := by
  obtain ⟨hn, u2, u3⟩ := id hm
  have k2 : g_cell E w im (gad E 62) _ := g_mut 62 (by omega) u2
  have k3 : g_cell E w im (gad E 63) _ := g_mut 63 (by omega) u3
  obtain ⟨z0, z1, z2, z3, z4, z5, z6, z7, z8, z9⟩ := id ok
  refine g_enter (by decide) rfl rfl (fun h => by first | rfl | cases h) (Nat.le_of_ble_eq_true rfl) rfl ?_
  refine g_aload_n (n := 0) (i := 0) rfl rfl d_M_sellProblem_0 ?_
  refine g_iload_n (n := 1) (i := 1) rfl rfl d_M_sellProblem_1 ?_
  refine g_callV1 rfl rfl e_M_isProduct l_M_93 iv_M_isProduct 9 (by decide) rfl (by assumption) (by decide) (Nat.zero_le _) (Nat.zero_le _) (Nat.le_of_ble_eq_true rfl) d_M_sellProblem_2 (c_M_isProduct hm ok rx (fun hB => ?_) (fun hB => ?_))
  · refine g_ret ?_
    refine g_if_ne_i (tgt := 12) (by decide) d_M_sellProblem_5 (by decide) (fun h5 => ?_) (fun h => absurd h (by decide))
    refine g_aload_n (n := 0) (i := 0) rfl rfl d_M_sellProblem_12 ?_
    refine g_getfield 9 0 f_M_9 (by assumption) (by rfl) d_M_sellProblem_13 ?_
    refine g_iconst_i d_M_sellProblem_16 ?_
    refine g_iaload_i (by assumption) (by omega) (by omega) (by rfl) d_M_sellProblem_17 ?_
    refine g_bipush_i (by decide) d_M_sellProblem_18 ?_
    refine g_icmp_ne_i (tgt := 27) (by omega) (by decide) d_M_sellProblem_20 (by decide) (fun h20 => ?_) (fun h20 => ?_)
    · refine g_iconst_i d_M_sellProblem_27 ?_
      refine g_ireturn_i rfl d_M_sellProblem_28 ?_
      exact g_qi hQ (by first | rw [if_neg hB] | rw [if_pos hB, if_pos (by omega)] | rw [if_pos hB, if_neg (by omega)])
    · refine g_iconst_i d_M_sellProblem_23 ?_
      refine g_goto (tgt := 28) (by decide) d_M_sellProblem_24 ?_
      refine g_ireturn_i rfl d_M_sellProblem_28 ?_
      exact g_qi hQ (by first | rw [if_neg hB] | rw [if_pos hB, if_pos (by omega)] | rw [if_pos hB, if_neg (by omega)])
  · refine g_ret ?_
    refine g_if_ne_i (tgt := 12) (by decide) d_M_sellProblem_5 (by decide) (fun h => absurd h (by decide)) (fun h5 => ?_)
    refine g_iconst_i d_M_sellProblem_8 ?_
    refine g_goto (tgt := 28) (by decide) d_M_sellProblem_9 ?_
    refine g_ireturn_i rfl d_M_sellProblem_28 ?_
    exact g_qi hQ (by first | rw [if_neg hB] | rw [if_pos hB, if_pos (by omega)] | rw [if_pos hB, if_neg (by omega)])

theorem c_M_replaceProblem {E : gE} {w : gW} {im : gIm} {Q : gQ} {f : Nat → Int} {m : Int → Int} (hm : MR E w f m) (ok : okM m) {x : Int} (rx : -2147483648 ≤ x ∧ x < 2147483648) (hQ : Q (.inl (some (.int (iI (if 0 ≤ x ∧ x < m 3 then (if 1 < m (461 + 5 * x + 1) then 2 else if m 3 = 20 then 2 else 0) else 1))))) w im) : GM E 3 y_M_replaceProblem m_M_replaceProblem 0 0 [.ref (gad E 62), .int (iI x)] w im Q := by
  obtain ⟨hn, u2, u3⟩ := id hm
  have k2 : g_cell E w im (gad E 62) _ := g_mut 62 (by omega) u2
  have k3 : g_cell E w im (gad E 63) _ := g_mut 63 (by omega) u3
  obtain ⟨z0, z1, z2, z3, z4, z5, z6, z7, z8, z9⟩ := id ok
  refine g_enter (by decide) rfl rfl (fun h => by first | rfl | cases h) (Nat.le_of_ble_eq_true rfl) rfl ?_
  refine g_aload_n (n := 0) (i := 0) rfl rfl d_M_replaceProblem_0 ?_
  refine g_iload_n (n := 1) (i := 1) rfl rfl d_M_replaceProblem_1 ?_
  refine g_callV1 rfl rfl e_M_stateProblem l_M_157 iv_M_stateProblem 9 (by decide) rfl (by assumption) (by decide) (Nat.zero_le _) (Nat.zero_le _) (Nat.le_of_ble_eq_true rfl) d_M_replaceProblem_2 (c_M_stateProblem hm ok rx ?_)
  refine g_ret ?_
  refine g_istore_n (n := 2) (i := 2) rfl (by decide) rfl d_M_replaceProblem_5 ?_
  refine g_iload_n (n := 2) (i := 2) rfl rfl d_M_replaceProblem_6 ?_
  refine g_if_ne_i (tgt := 25) (by first | omega | ((repeat' split) <;> omega)) d_M_replaceProblem_7 (by decide) (fun h7 => ?_) (fun h7 => ?_)
  · refine g_iload_n (n := 2) (i := 2) rfl rfl d_M_replaceProblem_25 ?_
    refine g_ireturn_i rfl d_M_replaceProblem_26 ?_
    exact g_qi hQ (by (repeat' split) <;> first | rfl | (exfalso; (repeat' split at *) <;> omega) | omega)
  · refine g_aload_n (n := 0) (i := 0) rfl rfl d_M_replaceProblem_10 ?_
    refine g_getfield 9 0 f_M_9 (by assumption) (by rfl) d_M_replaceProblem_11 ?_
    refine g_iconst_i d_M_replaceProblem_14 ?_
    refine g_iaload_i (by assumption) (by first | omega | ((repeat' split) <;> omega)) (by first | omega | ((repeat' split) <;> omega)) (by rfl) d_M_replaceProblem_15 ?_
    refine g_bipush_i (by decide) d_M_replaceProblem_16 ?_
    refine g_icmp_ne_i (tgt := 25) (by first | omega | ((repeat' split) <;> omega)) (by decide) d_M_replaceProblem_18 (by decide) (fun h18 => ?_) (fun h18 => ?_)
    · refine g_iload_n (n := 2) (i := 2) rfl rfl d_M_replaceProblem_25 ?_
      refine g_ireturn_i rfl d_M_replaceProblem_26 ?_
      exact g_qi hQ (by (repeat' split) <;> first | rfl | (exfalso; (repeat' split at *) <;> omega) | omega)
    · refine g_iconst_i d_M_replaceProblem_21 ?_
      refine g_goto (tgt := 26) (by decide) d_M_replaceProblem_22 ?_
      refine g_ireturn_i rfl d_M_replaceProblem_26 ?_
      exact g_qi hQ (by (repeat' split) <;> first | rfl | (exfalso; (repeat' split at *) <;> omega) | omega)

