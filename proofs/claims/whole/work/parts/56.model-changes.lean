/-! ===== the reference: setClosed, sell, pass, block, replace, refund ===== -/
def gClosed (m : Int → Int) (x on : Int) : Int × Int × (Int → Int) := if 0 ≤ x ∧ x < m 1 then (0, if m (5 + 34 * x + 2) = 1 then 1 else 0, uI m (5 + 34 * x + 2) on) else (1, 0, m)
def gSell (m : Int → Int) (x : Int) : Int × Int × (Int → Int) := if 0 ≤ x ∧ x < m 2 then (if m 3 = 20 then (2, 0, m) else (0, m 3, comeM m x (m (413 + 6 * x + 5)))) else (1, 0, m)
def gBlk (m : Int → Int) (x on : Int) : Int × Int × (Int → Int) := if 0 ≤ x ∧ x < m 3 then (if 1 < m (461 + 5 * x + 1) then (2, 0, m) else (0, m (461 + 5 * x + 1), uI m (461 + 5 * x + 1) on)) else (1, 0, m)
def gRefu (m : Int → Int) (x : Int) : Int × Int × (Int → Int) := if 0 ≤ x ∧ x < m 3 then (if 1 < m (461 + 5 * x + 1) then (2, 0, m) else (0, refM m x, uI (uI m (461 + 5 * x + 1) 3) (461 + 5 * x + 3) (refM m x))) else (1, 0, m)
/-- the rides of a card become another card's -/
def rplF (m : Int → Int) (x o k : Int) : Int → Int := fun j => if 561 ≤ j ∧ j < 561 + 3 * k ∧ (j - 561) % 3 = 0 ∧ m j = x then o else m j
def rpl3 (m : Int → Int) (x : Int) : Int → Int := uI (uI (uI (comeM m (m (461 + 5 * x + 0)) (m (461 + 5 * x + 4))) (461 + 5 * x + 1) 2) (461 + 5 * x + 2) (m 3)) (461 + 5 * x + 4) 0
def rplM (m : Int → Int) (x : Int) : Int → Int := rplF (rpl3 m x) x (m 3) (m 4)
def gRep (m : Int → Int) (x : Int) : Int × Int × (Int → Int) := if 0 ≤ x ∧ x < m 3 then (if 1 < m (461 + 5 * x + 1) then (2, 0, m) else if m 3 = 20 then (2, 0, m) else (0, m 3, rplM m x)) else (1, 0, m)
theorem comeM_n {m : Int → Int} {p c j : Int} (h3 : 0 ≤ m 3) (h1 : j ≠ 3) (h2 : j < 461 + 5 * m 3 ∨ 465 + 5 * m 3 < j) : comeM m p c j = m j := by
  unfold comeM come5
  simp only [uI]
  (repeat' rw [if_neg (by omega)])
theorem comeM_3 {m : Int → Int} {p c : Int} (h3 : 0 ≤ m 3) : comeM m p c 3 = m 3 + 1 := by
  unfold comeM come5
  rw [uI_s, uI_n (by omega), uI_n (by omega), uI_n (by omega), uI_n (by omega), uI_n (by omega)]

theorem c_M_setClosed {E : gE} {w : gW} {im : gIm} {Q : gQ} {f : Nat → Int} {m : Int → Int} (hm : MR E w f m) (ok : okM m) {pa : Int → Int} (u4 : w 64 = intE 28488 pa) (u6 : ∃ tr, w 66 = intE 3561 tr) (r2 : 0 ≤ f 2 ∧ f 2 ≤ 8) {x y : Int} (rx : -2147483648 ≤ x ∧ x < 2147483648) (ry : -2147483648 ≤ y ∧ y < 2147483648) (hQ : ∀ t r m' w', (t, r, m') = gClosed m x (if y = 0 then 0 else 1) → MOut E w f m pa t m' w' → Q (oV r) w' im) : GM E 2 y_M_setClosed m_M_setClosed 0 0 [.ref (gad E 62), .int (iI x), .int (iI y)] w im Q := by
  obtain ⟨hn, u2, u3⟩ := id hm
  have k2 : g_cell E w im (gad E 62) _ := g_mut 62 (by omega) u2
  have k3 : g_cell E w im (gad E 63) _ := g_mut 63 (by omega) u3
  obtain ⟨z0, z1, z2, z3, z4, z5, z6, z7, z8, z9⟩ := id ok
  refine g_enter (by decide) rfl rfl (fun h => by first | rfl | cases h) (Nat.le_of_ble_eq_true rfl) rfl ?_
  refine g_aload_n (n := 0) (i := 0) rfl rfl d_M_setClosed_0 ?_
  refine g_aload_n (n := 0) (i := 0) rfl rfl d_M_setClosed_1 ?_
  refine g_iload_n (n := 1) (i := 1) rfl rfl d_M_setClosed_2 ?_
  refine g_callV1 rfl rfl e_M_isGate l_M_69 iv_M_isGate 9 (by decide) rfl (by assumption) (by decide) (Nat.zero_le _) (Nat.zero_le _) (Nat.le_of_ble_eq_true rfl) d_M_setClosed_3 (c_M_isGate hm ok rx (fun hA => ?_) (fun hA => ?_))
  · refine g_ret ?_
    refine g_if_eq_i (tgt := 13) (by decide) d_M_setClosed_6 (by decide) (fun h => absurd h (by decide)) (fun h6 => ?_)
    refine g_iconst_i d_M_setClosed_9 ?_
    refine g_goto (tgt := 14) (by decide) d_M_setClosed_10 ?_
    refine g_putA 9 6 62 (by omega) u2 f_M_33 (Or.inl rfl) (by rfl) (by rfl) (Nat.le_of_ble_eq_true rfl) d_M_setClosed_14 (fun w hs hn9 => ?_)
    have hth := hm.th (t := 0) hs hn9
    have hm0 := hm
    have hm := hth.1
    obtain ⟨hn, u2, u3⟩ := id hm
    have k2 : g_cell E w im (gad E 62) _ := g_mut 62 (by omega) u2
    have k3 : g_cell E w im (gad E 63) _ := g_mut 63 (by omega) u3
    have u4 := (hn9 64 (by omega)).trans u4
    have u6 : ∃ tr, w 66 = intE 3561 tr := by obtain ⟨tr, u6⟩ := u6; exact ⟨tr, (hn9 66 (by omega)).trans u6⟩
    have r22 : 0 ≤ fU f 6 (0) 2 ∧ fU f 6 (0) 2 ≤ 8 := r2
    refine g_aload_n (n := 0) (i := 0) rfl rfl d_M_setClosed_17 ?_
    refine g_getfield 9 6 f_M_33 k2 (by rfl) d_M_setClosed_18 ?_
    rw [hth.2.1]
    refine g_if_eq_i (tgt := 26) (by decide) d_M_setClosed_21 (by decide) (fun h21 => ?_) (fun h => absurd h (by decide))
    have zx := z6 x hA
    refine g_aload_n (n := 0) (i := 0) rfl rfl d_M_setClosed_26 ?_
    refine g_iload_n (n := 1) (i := 1) rfl rfl d_M_setClosed_27 ?_
    refine g_iconst_i d_M_setClosed_28 ?_
    refine g_callV2 rfl rfl e_M_g l_M_63 iv_M_g 9 (by decide) rfl (by assumption) (by decide) (Nat.zero_le _) (Nat.zero_le _) (Nat.le_of_ble_eq_true rfl) d_M_setClosed_29 (c_M_g hm (by omega) (by omega) ?_)
    refine g_ret ?_
    refine g_iconst_i d_M_setClosed_32 ?_
    refine g_icmp_ne_i (tgt := 40) (by omega) (by decide) d_M_setClosed_33 (by decide) (fun h33 => ?_) (fun h33 => ?_)
    · refine g_iconst_i d_M_setClosed_40 ?_
      refine g_istore_n (n := 3) (i := 3) rfl (by decide) rfl d_M_setClosed_41 ?_
      refine g_aload_n (n := 0) (i := 0) rfl rfl d_M_setClosed_42 ?_
      refine g_callV0 rfl rfl e_M_changes l_M_56 iv_M_changes 9 (by decide) rfl (by assumption) (by decide) (Nat.zero_le _) (Nat.zero_le _) (Nat.le_of_ble_eq_true rfl) d_M_setClosed_43 (c_M_changes hm u4 u6 r22 (fun w hG => ?_))
      refine g_retv ?_
      have hC := MCh.mk hth.2.2 hth.2.1 hn9 hG
      obtain ⟨f5, q5, hm, hC1, hC2, hC3, hC4, hC5, hC6, hC7⟩ := id hC
      obtain ⟨hn, u2, u3⟩ := id hm
      have k2 : g_cell E w im (gad E 62) _ := g_mut 62 (by omega) u2
      have k3 : g_cell E w im (gad E 63) _ := g_mut 63 (by omega) u3
      refine g_aload_n (n := 0) (i := 0) rfl rfl d_M_setClosed_46 ?_
      refine g_getfield 9 0 f_M_9 (by assumption) (by rfl) d_M_setClosed_47 ?_
      refine g_iconst_i d_M_setClosed_50 ?_
      refine g_bipush_i (by decide) d_M_setClosed_51 ?_
      refine g_iload_n (n := 1) (i := 1) rfl rfl d_M_setClosed_53 ?_
      refine g_imul_i d_M_setClosed_54 ?_
      refine g_iadd_i d_M_setClosed_55 ?_
      refine g_iconst_i d_M_setClosed_56 ?_
      refine g_iadd_i d_M_setClosed_57 ?_
      refine g_iload_n (n := 2) (i := 2) rfl rfl d_M_setClosed_58 ?_
      refine g_if_eq_i (tgt := 66) (by omega) d_M_setClosed_59 (by decide) (fun h59 => ?_) (fun h59 => ?_)
      · refine g_iconst_i d_M_setClosed_66 ?_
        refine g_iastoreA 63 (by omega) u3 (by omega) (by omega) (by rfl) d_M_setClosed_67 (fun w hs hn9 => ?_)
        have hC := hC.row hs hn9
        obtain ⟨f5, q5, hm, hC1, hC2, hC3, hC4, hC5, hC6, hC7⟩ := id hC
        obtain ⟨hn, u2, u3⟩ := id hm
        have k2 : g_cell E w im (gad E 62) _ := g_mut 62 (by omega) u2
        have k3 : g_cell E w im (gad E 63) _ := g_mut 63 (by omega) u3
        refine g_iload_n (n := 3) (i := 3) rfl rfl d_M_setClosed_68 ?_
        refine g_ireturn_0 rfl d_M_setClosed_69 ?_
        exact hQ 0 _ _ _ (by unfold gClosed; rw [if_pos hA]; first | (rw [if_pos (by assumption), if_pos (by assumption)]; done) | (rw [if_pos (by assumption), if_neg (by assumption)]; done) | (rw [if_neg (by assumption), if_pos (by assumption)]; done) | (rw [if_neg (by assumption), if_neg (by assumption)]; done)) (Or.inl ⟨rfl, hC⟩)
      · refine g_iconst_i d_M_setClosed_62 ?_
        refine g_goto (tgt := 67) (by decide) d_M_setClosed_63 ?_
        refine g_iastoreA 63 (by omega) u3 (by omega) (by omega) (by rfl) d_M_setClosed_67 (fun w hs hn9 => ?_)
        have hC := hC.row hs hn9
        obtain ⟨f5, q5, hm, hC1, hC2, hC3, hC4, hC5, hC6, hC7⟩ := id hC
        obtain ⟨hn, u2, u3⟩ := id hm
        have k2 : g_cell E w im (gad E 62) _ := g_mut 62 (by omega) u2
        have k3 : g_cell E w im (gad E 63) _ := g_mut 63 (by omega) u3
        refine g_iload_n (n := 3) (i := 3) rfl rfl d_M_setClosed_68 ?_
        refine g_ireturn_0 rfl d_M_setClosed_69 ?_
        exact hQ 0 _ _ _ (by unfold gClosed; rw [if_pos hA]; first | (rw [if_pos (by assumption), if_pos (by assumption)]; done) | (rw [if_pos (by assumption), if_neg (by assumption)]; done) | (rw [if_neg (by assumption), if_pos (by assumption)]; done) | (rw [if_neg (by assumption), if_neg (by assumption)]; done)) (Or.inl ⟨rfl, hC⟩)
    · refine g_iconst_i d_M_setClosed_36 ?_
      refine g_goto (tgt := 41) (by decide) d_M_setClosed_37 ?_
      refine g_istore_n (n := 3) (i := 3) rfl (by decide) rfl d_M_setClosed_41 ?_
      refine g_aload_n (n := 0) (i := 0) rfl rfl d_M_setClosed_42 ?_
      refine g_callV0 rfl rfl e_M_changes l_M_56 iv_M_changes 9 (by decide) rfl (by assumption) (by decide) (Nat.zero_le _) (Nat.zero_le _) (Nat.le_of_ble_eq_true rfl) d_M_setClosed_43 (c_M_changes hm u4 u6 r22 (fun w hG => ?_))
      refine g_retv ?_
      have hC := MCh.mk hth.2.2 hth.2.1 hn9 hG
      obtain ⟨f5, q5, hm, hC1, hC2, hC3, hC4, hC5, hC6, hC7⟩ := id hC
      obtain ⟨hn, u2, u3⟩ := id hm
      have k2 : g_cell E w im (gad E 62) _ := g_mut 62 (by omega) u2
      have k3 : g_cell E w im (gad E 63) _ := g_mut 63 (by omega) u3
      refine g_aload_n (n := 0) (i := 0) rfl rfl d_M_setClosed_46 ?_
      refine g_getfield 9 0 f_M_9 (by assumption) (by rfl) d_M_setClosed_47 ?_
      refine g_iconst_i d_M_setClosed_50 ?_
      refine g_bipush_i (by decide) d_M_setClosed_51 ?_
      refine g_iload_n (n := 1) (i := 1) rfl rfl d_M_setClosed_53 ?_
      refine g_imul_i d_M_setClosed_54 ?_
      refine g_iadd_i d_M_setClosed_55 ?_
      refine g_iconst_i d_M_setClosed_56 ?_
      refine g_iadd_i d_M_setClosed_57 ?_
      refine g_iload_n (n := 2) (i := 2) rfl rfl d_M_setClosed_58 ?_
      refine g_if_eq_i (tgt := 66) (by omega) d_M_setClosed_59 (by decide) (fun h59 => ?_) (fun h59 => ?_)
      · refine g_iconst_i d_M_setClosed_66 ?_
        refine g_iastoreA 63 (by omega) u3 (by omega) (by omega) (by rfl) d_M_setClosed_67 (fun w hs hn9 => ?_)
        have hC := hC.row hs hn9
        obtain ⟨f5, q5, hm, hC1, hC2, hC3, hC4, hC5, hC6, hC7⟩ := id hC
        obtain ⟨hn, u2, u3⟩ := id hm
        have k2 : g_cell E w im (gad E 62) _ := g_mut 62 (by omega) u2
        have k3 : g_cell E w im (gad E 63) _ := g_mut 63 (by omega) u3
        refine g_iload_n (n := 3) (i := 3) rfl rfl d_M_setClosed_68 ?_
        refine g_ireturn_1 rfl d_M_setClosed_69 ?_
        exact hQ 0 _ _ _ (by unfold gClosed; rw [if_pos hA]; first | (rw [if_pos (by assumption), if_pos (by assumption)]; done) | (rw [if_pos (by assumption), if_neg (by assumption)]; done) | (rw [if_neg (by assumption), if_pos (by assumption)]; done) | (rw [if_neg (by assumption), if_neg (by assumption)]; done)) (Or.inl ⟨rfl, hC⟩)
      · refine g_iconst_i d_M_setClosed_62 ?_
        refine g_goto (tgt := 67) (by decide) d_M_setClosed_63 ?_
        refine g_iastoreA 63 (by omega) u3 (by omega) (by omega) (by rfl) d_M_setClosed_67 (fun w hs hn9 => ?_)
        have hC := hC.row hs hn9
        obtain ⟨f5, q5, hm, hC1, hC2, hC3, hC4, hC5, hC6, hC7⟩ := id hC
        obtain ⟨hn, u2, u3⟩ := id hm
        have k2 : g_cell E w im (gad E 62) _ := g_mut 62 (by omega) u2
        have k3 : g_cell E w im (gad E 63) _ := g_mut 63 (by omega) u3
        refine g_iload_n (n := 3) (i := 3) rfl rfl d_M_setClosed_68 ?_
        refine g_ireturn_1 rfl d_M_setClosed_69 ?_
        exact hQ 0 _ _ _ (by unfold gClosed; rw [if_pos hA]; first | (rw [if_pos (by assumption), if_pos (by assumption)]; done) | (rw [if_pos (by assumption), if_neg (by assumption)]; done) | (rw [if_neg (by assumption), if_pos (by assumption)]; done) | (rw [if_neg (by assumption), if_neg (by assumption)]; done)) (Or.inl ⟨rfl, hC⟩)
  · refine g_ret ?_
    refine g_if_eq_i (tgt := 13) (by decide) d_M_setClosed_6 (by decide) (fun h6 => ?_) (fun h => absurd h (by decide))
    refine g_iconst_i d_M_setClosed_13 ?_
    refine g_putA 9 6 62 (by omega) u2 f_M_33 (Or.inl rfl) (by rfl) (by rfl) (Nat.le_of_ble_eq_true rfl) d_M_setClosed_14 (fun w hs hn9 => ?_)
    have hth := hm.th (t := 1) hs hn9
    have hm0 := hm
    have hm := hth.1
    obtain ⟨hn, u2, u3⟩ := id hm
    have k2 : g_cell E w im (gad E 62) _ := g_mut 62 (by omega) u2
    have k3 : g_cell E w im (gad E 63) _ := g_mut 63 (by omega) u3
    have u4 := (hn9 64 (by omega)).trans u4
    have u6 : ∃ tr, w 66 = intE 3561 tr := by obtain ⟨tr, u6⟩ := u6; exact ⟨tr, (hn9 66 (by omega)).trans u6⟩
    have r22 : 0 ≤ fU f 6 (1) 2 ∧ fU f 6 (1) 2 ≤ 8 := r2
    refine g_aload_n (n := 0) (i := 0) rfl rfl d_M_setClosed_17 ?_
    refine g_getfield 9 6 f_M_33 k2 (by rfl) d_M_setClosed_18 ?_
    rw [hth.2.1]
    refine g_if_eq_i (tgt := 26) (by decide) d_M_setClosed_21 (by decide) (fun h => absurd h (by decide)) (fun h21 => ?_)
    refine g_iconst_i d_M_setClosed_24 ?_
    refine g_ireturn_0 rfl d_M_setClosed_25 ?_
    exact hQ _ _ _ _ (by unfold gClosed; rw [if_neg hA]) (Or.inr ⟨by decide, rfl, ⟨_, hm, hth.2.1, hth.2.2, hn9⟩⟩)

theorem c_M_sellProblem2 {E : gE} {w : gW} {im : gIm} {Q : gQ} {f : Nat → Int} {m : Int → Int} (hm : MR E w f m) (ok : okM m) {x : Int} (rx : -2147483648 ≤ x ∧ x < 2147483648) (hQ1 : (0 ≤ x ∧ x < m 2) → m 3 = 20 → Q (.inl (some (.int (iI 2)))) w im) (hQ2 : (0 ≤ x ∧ x < m 2) → m 3 ≠ 20 → Q (.inl (some (.int (iI 0)))) w im) (hQ3 : ¬ (0 ≤ x ∧ x < m 2) → Q (.inl (some (.int (iI 1)))) w im) : GM E 2 y_M_sellProblem m_M_sellProblem 0 0 [.ref (gad E 62), .int (iI x)] w im Q := by
  refine c_M_sellProblem hm ok rx ?_
  by_cases h : 0 ≤ x ∧ x < m 2
  · rw [if_pos h]
    by_cases h2 : m 3 = 20
    · rw [if_pos h2]; exact hQ1 h h2
    · rw [if_neg h2]; exact hQ2 h h2
  · rw [if_neg h]; exact hQ3 h
theorem c_M_stateProblem2 {E : gE} {w : gW} {im : gIm} {Q : gQ} {f : Nat → Int} {m : Int → Int} (hm : MR E w f m) (ok : okM m) {x : Int} (rx : -2147483648 ≤ x ∧ x < 2147483648) (hQ1 : (0 ≤ x ∧ x < m 3) → 1 < m (461 + 5 * x + 1) → Q (.inl (some (.int (iI 2)))) w im) (hQ2 : (0 ≤ x ∧ x < m 3) → ¬ 1 < m (461 + 5 * x + 1) → Q (.inl (some (.int (iI 0)))) w im) (hQ3 : ¬ (0 ≤ x ∧ x < m 3) → Q (.inl (some (.int (iI 1)))) w im) : GM E 2 y_M_stateProblem m_M_stateProblem 0 0 [.ref (gad E 62), .int (iI x)] w im Q := by
  refine c_M_stateProblem hm ok rx ?_
  by_cases h : 0 ≤ x ∧ x < m 3
  · rw [if_pos h]
    by_cases h2 : 1 < m (461 + 5 * x + 1)
    · rw [if_pos h2]; exact hQ1 h h2
    · rw [if_neg h2]; exact hQ2 h h2
  · rw [if_neg h]; exact hQ3 h
theorem c_M_replaceProblem2 {E : gE} {w : gW} {im : gIm} {Q : gQ} {f : Nat → Int} {m : Int → Int} (hm : MR E w f m) (ok : okM m) {x : Int} (rx : -2147483648 ≤ x ∧ x < 2147483648) (hQ1 : (0 ≤ x ∧ x < m 3) → (1 < m (461 + 5 * x + 1) ∨ m 3 = 20) → Q (.inl (some (.int (iI 2)))) w im) (hQ2 : (0 ≤ x ∧ x < m 3) → ¬ (1 < m (461 + 5 * x + 1) ∨ m 3 = 20) → Q (.inl (some (.int (iI 0)))) w im) (hQ3 : ¬ (0 ≤ x ∧ x < m 3) → Q (.inl (some (.int (iI 1)))) w im) : GM E 3 y_M_replaceProblem m_M_replaceProblem 0 0 [.ref (gad E 62), .int (iI x)] w im Q := by
  refine c_M_replaceProblem hm ok rx ?_
  by_cases h : 0 ≤ x ∧ x < m 3
  · rw [if_pos h]
    by_cases h2 : 1 < m (461 + 5 * x + 1)
    · rw [if_pos h2]; exact hQ1 h (Or.inl h2)
    · rw [if_neg h2]
      by_cases h3 : m 3 = 20
      · rw [if_pos h3]; exact hQ1 h (Or.inr h3)
      · rw [if_neg h3]; exact hQ2 h (fun h => h.elim h2 h3)
  · rw [if_neg h]; exact hQ3 h

theorem c_M_sell {E : gE} {w : gW} {im : gIm} {Q : gQ} {f : Nat → Int} {m : Int → Int} (hm : MR E w f m) (ok : okM m) {pa : Int → Int} (u4 : w 64 = intE 28488 pa) (u6 : ∃ tr, w 66 = intE 3561 tr) (r2 : 0 ≤ f 2 ∧ f 2 ≤ 8) {x : Int} (rx : -2147483648 ≤ x ∧ x < 2147483648) (hQ : ∀ t r m' w', (t, r, m') = gSell m x → MOut E w f m pa t m' w' → Q (oV r) w' im) : GM E 3 y_M_sell m_M_sell 0 0 [.ref (gad E 62), .int (iI x)] w im Q := by
  obtain ⟨hn, u2, u3⟩ := id hm
  have k2 : g_cell E w im (gad E 62) _ := g_mut 62 (by omega) u2
  have k3 : g_cell E w im (gad E 63) _ := g_mut 63 (by omega) u3
  obtain ⟨z0, z1, z2, z3, z4, z5, z6, z7, z8, z9⟩ := id ok
  refine g_enter (by decide) rfl rfl (fun h => by first | rfl | cases h) (Nat.le_of_ble_eq_true rfl) rfl ?_
  refine g_aload_n (n := 0) (i := 0) rfl rfl d_M_sell_0 ?_
  refine g_aload_n (n := 0) (i := 0) rfl rfl d_M_sell_1 ?_
  refine g_iload_n (n := 1) (i := 1) rfl rfl d_M_sell_2 ?_
  refine g_callV1 rfl rfl e_M_sellProblem l_M_130 iv_M_sellProblem 9 (by decide) rfl (by assumption) (by decide) (Nat.zero_le _) (Nat.zero_le _) (Nat.le_of_ble_eq_true rfl) d_M_sell_3 (c_M_sellProblem2 hm ok rx (fun hA hB => ?_) (fun hA hB => ?_) (fun hA => ?_))
  · refine g_ret ?_
    refine g_putA 9 6 62 (by omega) u2 f_M_33 (Or.inl rfl) (by rfl) (by rfl) (Nat.le_of_ble_eq_true rfl) d_M_sell_6 (fun w hs hn9 => ?_)
    have hth := hm.th (t := 2) hs hn9
    have hm0 := hm
    have hm := hth.1
    obtain ⟨hn, u2, u3⟩ := id hm
    have k2 : g_cell E w im (gad E 62) _ := g_mut 62 (by omega) u2
    have k3 : g_cell E w im (gad E 63) _ := g_mut 63 (by omega) u3
    have u4 := (hn9 64 (by omega)).trans u4
    have u6 : ∃ tr, w 66 = intE 3561 tr := by obtain ⟨tr, u6⟩ := u6; exact ⟨tr, (hn9 66 (by omega)).trans u6⟩
    have r22 : 0 ≤ fU f 6 (2) 2 ∧ fU f 6 (2) 2 ≤ 8 := r2
    refine g_aload_n (n := 0) (i := 0) rfl rfl d_M_sell_9 ?_
    refine g_getfield 9 6 f_M_33 k2 (by rfl) d_M_sell_10 ?_
    rw [hth.2.1]
    refine g_if_eq_i (tgt := 18) (by decide) d_M_sell_13 (by decide) (fun h => absurd h (by decide)) (fun h13 => ?_)
    refine g_iconst_i d_M_sell_16 ?_
    refine g_ireturn_i rfl d_M_sell_17 ?_
    exact hQ _ _ _ _ (by unfold gSell; first | (rw [if_neg hA]; done) | (rw [if_pos hA, if_pos (by omega)]; done) | (rw [if_pos hA, if_neg (by omega), if_pos (by omega)]; done)) (Or.inr ⟨by omega, rfl, ⟨_, hm, hth.2.1, hth.2.2, hn9⟩⟩)
  · refine g_ret ?_
    refine g_putA 9 6 62 (by omega) u2 f_M_33 (Or.inl rfl) (by rfl) (by rfl) (Nat.le_of_ble_eq_true rfl) d_M_sell_6 (fun w hs hn9 => ?_)
    have hth := hm.th (t := 0) hs hn9
    have hm0 := hm
    have hm := hth.1
    obtain ⟨hn, u2, u3⟩ := id hm
    have k2 : g_cell E w im (gad E 62) _ := g_mut 62 (by omega) u2
    have k3 : g_cell E w im (gad E 63) _ := g_mut 63 (by omega) u3
    have u4 := (hn9 64 (by omega)).trans u4
    have u6 : ∃ tr, w 66 = intE 3561 tr := by obtain ⟨tr, u6⟩ := u6; exact ⟨tr, (hn9 66 (by omega)).trans u6⟩
    have r22 : 0 ≤ fU f 6 (0) 2 ∧ fU f 6 (0) 2 ≤ 8 := r2
    refine g_aload_n (n := 0) (i := 0) rfl rfl d_M_sell_9 ?_
    refine g_getfield 9 6 f_M_33 k2 (by rfl) d_M_sell_10 ?_
    rw [hth.2.1]
    refine g_if_eq_i (tgt := 18) (by decide) d_M_sell_13 (by decide) (fun h13 => ?_) (fun h => absurd h (by decide))
    refine g_aload_n (n := 0) (i := 0) rfl rfl d_M_sell_18 ?_
    refine g_callV0 rfl rfl e_M_changes l_M_56 iv_M_changes 9 (by decide) rfl (by assumption) (by decide) (Nat.zero_le _) (Nat.zero_le _) (Nat.le_of_ble_eq_true rfl) d_M_sell_19 (c_M_changes hm u4 u6 r22 (fun w hG => ?_))
    refine g_retv ?_
    have hC := MCh.mk hth.2.2 hth.2.1 hn9 hG
    obtain ⟨f5, q5, hm, hC1, hC2, hC3, hC4, hC5, hC6, hC7⟩ := id hC
    obtain ⟨hn, u2, u3⟩ := id hm
    have k2 : g_cell E w im (gad E 62) _ := g_mut 62 (by omega) u2
    have k3 : g_cell E w im (gad E 63) _ := g_mut 63 (by omega) u3
    have z3' : 0 ≤ m 3 ∧ m 3 < 20 := by omega
    refine g_aload_n (n := 0) (i := 0) rfl rfl d_M_sell_22 ?_
    refine g_iload_n (n := 1) (i := 1) rfl rfl d_M_sell_23 ?_
    refine g_aload_n (n := 0) (i := 0) rfl rfl d_M_sell_24 ?_
    refine g_iload_n (n := 1) (i := 1) rfl rfl d_M_sell_25 ?_
    refine g_iconst_i d_M_sell_26 ?_
    refine g_callV2 rfl rfl e_M_p l_M_83 iv_M_p 9 (by decide) rfl (by assumption) (by decide) (Nat.zero_le _) (Nat.zero_le _) (Nat.le_of_ble_eq_true rfl) d_M_sell_27 (c_M_p hm (by omega) (by omega) ?_)
    refine g_ret ?_
    refine g_callV2 rfl rfl e_M_comesCard l_M_133 iv_M_comesCard 9 (by decide) rfl (by assumption) (by decide) (Nat.zero_le _) (Nat.zero_le _) (Nat.le_of_ble_eq_true rfl) d_M_sell_30 (c_M_comesCard hm z3' (fun w hS => ?_))
    refine g_ret ?_
    have hC := hC.ms hm hS
    obtain ⟨f5, q5, hm, hC1, hC2, hC3, hC4, hC5, hC6, hC7⟩ := id hC
    obtain ⟨hn, u2, u3⟩ := id hm
    have k2 : g_cell E w im (gad E 62) _ := g_mut 62 (by omega) u2
    have k3 : g_cell E w im (gad E 63) _ := g_mut 63 (by omega) u3
    refine g_ireturn_i rfl d_M_sell_33 ?_
    exact hQ 0 _ _ _ (by unfold gSell; rw [if_pos hA, if_neg hB]) (Or.inl ⟨rfl, hC⟩)
  · refine g_ret ?_
    refine g_putA 9 6 62 (by omega) u2 f_M_33 (Or.inl rfl) (by rfl) (by rfl) (Nat.le_of_ble_eq_true rfl) d_M_sell_6 (fun w hs hn9 => ?_)
    have hth := hm.th (t := 1) hs hn9
    have hm0 := hm
    have hm := hth.1
    obtain ⟨hn, u2, u3⟩ := id hm
    have k2 : g_cell E w im (gad E 62) _ := g_mut 62 (by omega) u2
    have k3 : g_cell E w im (gad E 63) _ := g_mut 63 (by omega) u3
    have u4 := (hn9 64 (by omega)).trans u4
    have u6 : ∃ tr, w 66 = intE 3561 tr := by obtain ⟨tr, u6⟩ := u6; exact ⟨tr, (hn9 66 (by omega)).trans u6⟩
    have r22 : 0 ≤ fU f 6 (1) 2 ∧ fU f 6 (1) 2 ≤ 8 := r2
    refine g_aload_n (n := 0) (i := 0) rfl rfl d_M_sell_9 ?_
    refine g_getfield 9 6 f_M_33 k2 (by rfl) d_M_sell_10 ?_
    rw [hth.2.1]
    refine g_if_eq_i (tgt := 18) (by decide) d_M_sell_13 (by decide) (fun h => absurd h (by decide)) (fun h13 => ?_)
    refine g_iconst_i d_M_sell_16 ?_
    refine g_ireturn_i rfl d_M_sell_17 ?_
    exact hQ _ _ _ _ (by unfold gSell; first | (rw [if_neg hA]; done) | (rw [if_pos hA, if_pos (by omega)]; done) | (rw [if_pos hA, if_neg (by omega), if_pos (by omega)]; done)) (Or.inr ⟨by omega, rfl, ⟨_, hm, hth.2.1, hth.2.2, hn9⟩⟩)

theorem c_M_block {E : gE} {w : gW} {im : gIm} {Q : gQ} {f : Nat → Int} {m : Int → Int} (hm : MR E w f m) (ok : okM m) {pa : Int → Int} (u4 : w 64 = intE 28488 pa) (u6 : ∃ tr, w 66 = intE 3561 tr) (r2 : 0 ≤ f 2 ∧ f 2 ≤ 8) {x y : Int} (rx : -2147483648 ≤ x ∧ x < 2147483648) (ry : -2147483648 ≤ y ∧ y < 2147483648) (hQ : ∀ t r m' w', (t, r, m') = gBlk m x (if y = 0 then 0 else 1) → MOut E w f m pa t m' w' → Q (oV r) w' im) : GM E 3 y_M_block m_M_block 0 0 [.ref (gad E 62), .int (iI x), .int (iI y)] w im Q := by
  obtain ⟨hn, u2, u3⟩ := id hm
  have k2 : g_cell E w im (gad E 62) _ := g_mut 62 (by omega) u2
  have k3 : g_cell E w im (gad E 63) _ := g_mut 63 (by omega) u3
  obtain ⟨z0, z1, z2, z3, z4, z5, z6, z7, z8, z9⟩ := id ok
  refine g_enter (by decide) rfl rfl (fun h => by first | rfl | cases h) (Nat.le_of_ble_eq_true rfl) rfl ?_
  refine g_aload_n (n := 0) (i := 0) rfl rfl d_M_block_0 ?_
  refine g_aload_n (n := 0) (i := 0) rfl rfl d_M_block_1 ?_
  refine g_iload_n (n := 1) (i := 1) rfl rfl d_M_block_2 ?_
  refine g_callV1 rfl rfl e_M_stateProblem l_M_157 iv_M_stateProblem 9 (by decide) rfl (by assumption) (by decide) (Nat.zero_le _) (Nat.zero_le _) (Nat.le_of_ble_eq_true rfl) d_M_block_3 (c_M_stateProblem2 hm ok rx (fun hA hB => ?_) (fun hA hB => ?_) (fun hA => ?_))
  · refine g_ret ?_
    refine g_putA 9 6 62 (by omega) u2 f_M_33 (Or.inl rfl) (by rfl) (by rfl) (Nat.le_of_ble_eq_true rfl) d_M_block_6 (fun w hs hn9 => ?_)
    have hth := hm.th (t := 2) hs hn9
    have hm0 := hm
    have hm := hth.1
    obtain ⟨hn, u2, u3⟩ := id hm
    have k2 : g_cell E w im (gad E 62) _ := g_mut 62 (by omega) u2
    have k3 : g_cell E w im (gad E 63) _ := g_mut 63 (by omega) u3
    have u4 := (hn9 64 (by omega)).trans u4
    have u6 : ∃ tr, w 66 = intE 3561 tr := by obtain ⟨tr, u6⟩ := u6; exact ⟨tr, (hn9 66 (by omega)).trans u6⟩
    have r22 : 0 ≤ fU f 6 (2) 2 ∧ fU f 6 (2) 2 ≤ 8 := r2
    refine g_aload_n (n := 0) (i := 0) rfl rfl d_M_block_9 ?_
    refine g_getfield 9 6 f_M_33 k2 (by rfl) d_M_block_10 ?_
    rw [hth.2.1]
    refine g_if_eq_i (tgt := 18) (by decide) d_M_block_13 (by decide) (fun h => absurd h (by decide)) (fun h13 => ?_)
    refine g_iconst_i d_M_block_16 ?_
    refine g_ireturn_i rfl d_M_block_17 ?_
    exact hQ _ _ _ _ (by unfold gBlk; first | (rw [if_neg hA]; done) | (rw [if_pos hA, if_pos (by omega)]; done) | (rw [if_pos hA, if_neg (by omega), if_pos (by omega)]; done)) (Or.inr ⟨by omega, rfl, ⟨_, hm, hth.2.1, hth.2.2, hn9⟩⟩)
  · refine g_ret ?_
    refine g_putA 9 6 62 (by omega) u2 f_M_33 (Or.inl rfl) (by rfl) (by rfl) (Nat.le_of_ble_eq_true rfl) d_M_block_6 (fun w hs hn9 => ?_)
    have hth := hm.th (t := 0) hs hn9
    have hm0 := hm
    have hm := hth.1
    obtain ⟨hn, u2, u3⟩ := id hm
    have k2 : g_cell E w im (gad E 62) _ := g_mut 62 (by omega) u2
    have k3 : g_cell E w im (gad E 63) _ := g_mut 63 (by omega) u3
    have u4 := (hn9 64 (by omega)).trans u4
    have u6 : ∃ tr, w 66 = intE 3561 tr := by obtain ⟨tr, u6⟩ := u6; exact ⟨tr, (hn9 66 (by omega)).trans u6⟩
    have r22 : 0 ≤ fU f 6 (0) 2 ∧ fU f 6 (0) 2 ≤ 8 := r2
    refine g_aload_n (n := 0) (i := 0) rfl rfl d_M_block_9 ?_
    refine g_getfield 9 6 f_M_33 k2 (by rfl) d_M_block_10 ?_
    rw [hth.2.1]
    refine g_if_eq_i (tgt := 18) (by decide) d_M_block_13 (by decide) (fun h13 => ?_) (fun h => absurd h (by decide))
    refine g_aload_n (n := 0) (i := 0) rfl rfl d_M_block_18 ?_
    refine g_iload_n (n := 1) (i := 1) rfl rfl d_M_block_19 ?_
    refine g_iconst_i d_M_block_20 ?_
    refine g_callV2 rfl rfl e_M_c l_M_90 iv_M_c 9 (by decide) rfl (by assumption) (by decide) (Nat.zero_le _) (Nat.zero_le _) (Nat.le_of_ble_eq_true rfl) d_M_block_21 (c_M_c hm (by omega) (by omega) ?_)
    refine g_ret ?_
    refine g_istore_n (n := 3) (i := 3) rfl (by decide) rfl d_M_block_24 ?_
    refine g_aload_n (n := 0) (i := 0) rfl rfl d_M_block_25 ?_
    refine g_callV0 rfl rfl e_M_changes l_M_56 iv_M_changes 9 (by decide) rfl (by assumption) (by decide) (Nat.zero_le _) (Nat.zero_le _) (Nat.le_of_ble_eq_true rfl) d_M_block_26 (c_M_changes hm u4 u6 r22 (fun w hG => ?_))
    refine g_retv ?_
    have hC := MCh.mk hth.2.2 hth.2.1 hn9 hG
    obtain ⟨f5, q5, hm, hC1, hC2, hC3, hC4, hC5, hC6, hC7⟩ := id hC
    obtain ⟨hn, u2, u3⟩ := id hm
    have k2 : g_cell E w im (gad E 62) _ := g_mut 62 (by omega) u2
    have k3 : g_cell E w im (gad E 63) _ := g_mut 63 (by omega) u3
    refine g_aload_n (n := 0) (i := 0) rfl rfl d_M_block_29 ?_
    refine g_iload_n (n := 1) (i := 1) rfl rfl d_M_block_30 ?_
    refine g_iconst_i d_M_block_31 ?_
    refine g_iload_n (n := 2) (i := 2) rfl rfl d_M_block_32 ?_
    refine g_if_eq_i (tgt := 40) (by omega) d_M_block_33 (by decide) (fun h33 => ?_) (fun h33 => ?_)
    · refine g_iconst_i d_M_block_40 ?_
      refine g_callV3 rfl rfl e_M_setC l_M_126 iv_M_setC 9 (by decide) rfl (by assumption) (by decide) (Nat.zero_le _) (Nat.zero_le _) (Nat.le_of_ble_eq_true rfl) d_M_block_41 (c_M_setC hm (by omega) (by omega) (fun w hS => ?_))
      refine g_retv ?_
      have hC := hC.ms hm hS
      obtain ⟨f5, q5, hm, hC1, hC2, hC3, hC4, hC5, hC6, hC7⟩ := id hC
      obtain ⟨hn, u2, u3⟩ := id hm
      have k2 : g_cell E w im (gad E 62) _ := g_mut 62 (by omega) u2
      have k3 : g_cell E w im (gad E 63) _ := g_mut 63 (by omega) u3
      refine g_iload_n (n := 3) (i := 3) rfl rfl d_M_block_44 ?_
      refine g_ireturn_i rfl d_M_block_45 ?_
      exact hQ 0 _ _ _ (by unfold gBlk; rw [if_pos hA, if_neg hB]; first | (rw [if_pos (by assumption)]; done) | (rw [if_neg (by assumption)]; done)) (Or.inl ⟨rfl, hC⟩)
    · refine g_iconst_i d_M_block_36 ?_
      refine g_goto (tgt := 41) (by decide) d_M_block_37 ?_
      refine g_callV3 rfl rfl e_M_setC l_M_126 iv_M_setC 9 (by decide) rfl (by assumption) (by decide) (Nat.zero_le _) (Nat.zero_le _) (Nat.le_of_ble_eq_true rfl) d_M_block_41 (c_M_setC hm (by omega) (by omega) (fun w hS => ?_))
      refine g_retv ?_
      have hC := hC.ms hm hS
      obtain ⟨f5, q5, hm, hC1, hC2, hC3, hC4, hC5, hC6, hC7⟩ := id hC
      obtain ⟨hn, u2, u3⟩ := id hm
      have k2 : g_cell E w im (gad E 62) _ := g_mut 62 (by omega) u2
      have k3 : g_cell E w im (gad E 63) _ := g_mut 63 (by omega) u3
      refine g_iload_n (n := 3) (i := 3) rfl rfl d_M_block_44 ?_
      refine g_ireturn_i rfl d_M_block_45 ?_
      exact hQ 0 _ _ _ (by unfold gBlk; rw [if_pos hA, if_neg hB]; first | (rw [if_pos (by assumption)]; done) | (rw [if_neg (by assumption)]; done)) (Or.inl ⟨rfl, hC⟩)
  · refine g_ret ?_
    refine g_putA 9 6 62 (by omega) u2 f_M_33 (Or.inl rfl) (by rfl) (by rfl) (Nat.le_of_ble_eq_true rfl) d_M_block_6 (fun w hs hn9 => ?_)
    have hth := hm.th (t := 1) hs hn9
    have hm0 := hm
    have hm := hth.1
    obtain ⟨hn, u2, u3⟩ := id hm
    have k2 : g_cell E w im (gad E 62) _ := g_mut 62 (by omega) u2
    have k3 : g_cell E w im (gad E 63) _ := g_mut 63 (by omega) u3
    have u4 := (hn9 64 (by omega)).trans u4
    have u6 : ∃ tr, w 66 = intE 3561 tr := by obtain ⟨tr, u6⟩ := u6; exact ⟨tr, (hn9 66 (by omega)).trans u6⟩
    have r22 : 0 ≤ fU f 6 (1) 2 ∧ fU f 6 (1) 2 ≤ 8 := r2
    refine g_aload_n (n := 0) (i := 0) rfl rfl d_M_block_9 ?_
    refine g_getfield 9 6 f_M_33 k2 (by rfl) d_M_block_10 ?_
    rw [hth.2.1]
    refine g_if_eq_i (tgt := 18) (by decide) d_M_block_13 (by decide) (fun h => absurd h (by decide)) (fun h13 => ?_)
    refine g_iconst_i d_M_block_16 ?_
    refine g_ireturn_i rfl d_M_block_17 ?_
    exact hQ _ _ _ _ (by unfold gBlk; first | (rw [if_neg hA]; done) | (rw [if_pos hA, if_pos (by omega)]; done) | (rw [if_pos hA, if_neg (by omega), if_pos (by omega)]; done)) (Or.inr ⟨by omega, rfl, ⟨_, hm, hth.2.1, hth.2.2, hn9⟩⟩)

theorem c_M_refund {E : gE} {w : gW} {im : gIm} {Q : gQ} {f : Nat → Int} {m : Int → Int} (hm : MR E w f m) (ok : okM m) {pa : Int → Int} (u4 : w 64 = intE 28488 pa) (u6 : ∃ tr, w 66 = intE 3561 tr) (r2 : 0 ≤ f 2 ∧ f 2 ≤ 8) {x : Int} (rx : -2147483648 ≤ x ∧ x < 2147483648) (hQ : ∀ t r m' w', (t, r, m') = gRefu m x → MOut E w f m pa t m' w' → Q (oV r) w' im) : GM E 5 y_M_refund m_M_refund 0 0 [.ref (gad E 62), .int (iI x)] w im Q := by
  obtain ⟨hn, u2, u3⟩ := id hm
  have k2 : g_cell E w im (gad E 62) _ := g_mut 62 (by omega) u2
  have k3 : g_cell E w im (gad E 63) _ := g_mut 63 (by omega) u3
  obtain ⟨z0, z1, z2, z3, z4, z5, z6, z7, z8, z9⟩ := id ok
  refine g_enter (by decide) rfl rfl (fun h => by first | rfl | cases h) (Nat.le_of_ble_eq_true rfl) rfl ?_
  refine g_aload_n (n := 0) (i := 0) rfl rfl d_M_refund_0 ?_
  refine g_aload_n (n := 0) (i := 0) rfl rfl d_M_refund_1 ?_
  refine g_iload_n (n := 1) (i := 1) rfl rfl d_M_refund_2 ?_
  refine g_callV1 rfl rfl e_M_stateProblem l_M_157 iv_M_stateProblem 9 (by decide) rfl (by assumption) (by decide) (Nat.zero_le _) (Nat.zero_le _) (Nat.le_of_ble_eq_true rfl) d_M_refund_3 (c_M_stateProblem2 hm ok rx (fun hA hB => ?_) (fun hA hB => ?_) (fun hA => ?_))
  · refine g_ret ?_
    refine g_putA 9 6 62 (by omega) u2 f_M_33 (Or.inl rfl) (by rfl) (by rfl) (Nat.le_of_ble_eq_true rfl) d_M_refund_6 (fun w hs hn9 => ?_)
    have hth := hm.th (t := 2) hs hn9
    have hm0 := hm
    have hm := hth.1
    obtain ⟨hn, u2, u3⟩ := id hm
    have k2 : g_cell E w im (gad E 62) _ := g_mut 62 (by omega) u2
    have k3 : g_cell E w im (gad E 63) _ := g_mut 63 (by omega) u3
    have u4 := (hn9 64 (by omega)).trans u4
    have u6 : ∃ tr, w 66 = intE 3561 tr := by obtain ⟨tr, u6⟩ := u6; exact ⟨tr, (hn9 66 (by omega)).trans u6⟩
    have r22 : 0 ≤ fU f 6 (2) 2 ∧ fU f 6 (2) 2 ≤ 8 := r2
    refine g_aload_n (n := 0) (i := 0) rfl rfl d_M_refund_9 ?_
    refine g_getfield 9 6 f_M_33 k2 (by rfl) d_M_refund_10 ?_
    rw [hth.2.1]
    refine g_if_eq_i (tgt := 18) (by decide) d_M_refund_13 (by decide) (fun h => absurd h (by decide)) (fun h13 => ?_)
    refine g_iconst_i d_M_refund_16 ?_
    refine g_ireturn_i rfl d_M_refund_17 ?_
    exact hQ _ _ _ _ (by unfold gRefu; first | (rw [if_neg hA]; done) | (rw [if_pos hA, if_pos (by omega)]; done) | (rw [if_pos hA, if_neg (by omega), if_pos (by omega)]; done)) (Or.inr ⟨by omega, rfl, ⟨_, hm, hth.2.1, hth.2.2, hn9⟩⟩)
  · refine g_ret ?_
    refine g_putA 9 6 62 (by omega) u2 f_M_33 (Or.inl rfl) (by rfl) (by rfl) (Nat.le_of_ble_eq_true rfl) d_M_refund_6 (fun w hs hn9 => ?_)
    have hth := hm.th (t := 0) hs hn9
    have hm0 := hm
    have hm := hth.1
    obtain ⟨hn, u2, u3⟩ := id hm
    have k2 : g_cell E w im (gad E 62) _ := g_mut 62 (by omega) u2
    have k3 : g_cell E w im (gad E 63) _ := g_mut 63 (by omega) u3
    have u4 := (hn9 64 (by omega)).trans u4
    have u6 : ∃ tr, w 66 = intE 3561 tr := by obtain ⟨tr, u6⟩ := u6; exact ⟨tr, (hn9 66 (by omega)).trans u6⟩
    have r22 : 0 ≤ fU f 6 (0) 2 ∧ fU f 6 (0) 2 ≤ 8 := r2
    refine g_aload_n (n := 0) (i := 0) rfl rfl d_M_refund_9 ?_
    refine g_getfield 9 6 f_M_33 k2 (by rfl) d_M_refund_10 ?_
    rw [hth.2.1]
    refine g_if_eq_i (tgt := 18) (by decide) d_M_refund_13 (by decide) (fun h13 => ?_) (fun h => absurd h (by decide))
    refine g_aload_n (n := 0) (i := 0) rfl rfl d_M_refund_18 ?_
    refine g_callV0 rfl rfl e_M_changes l_M_56 iv_M_changes 9 (by decide) rfl (by assumption) (by decide) (Nat.zero_le _) (Nat.zero_le _) (Nat.le_of_ble_eq_true rfl) d_M_refund_19 (c_M_changes hm u4 u6 r22 (fun w hG => ?_))
    refine g_retv ?_
    have hC := MCh.mk hth.2.2 hth.2.1 hn9 hG
    obtain ⟨f5, q5, hm, hC1, hC2, hC3, hC4, hC5, hC6, hC7⟩ := id hC
    obtain ⟨hn, u2, u3⟩ := id hm
    have k2 : g_cell E w im (gad E 62) _ := g_mut 62 (by omega) u2
    have k3 : g_cell E w im (gad E 63) _ := g_mut 63 (by omega) u3
    refine g_aload_n (n := 0) (i := 0) rfl rfl d_M_refund_22 ?_
    refine g_iload_n (n := 1) (i := 1) rfl rfl d_M_refund_23 ?_
    refine g_callV1 rfl rfl e_M_refundOf l_M_172 iv_M_refundOf 9 (by decide) rfl (by assumption) (by decide) (Nat.zero_le _) (Nat.zero_le _) (Nat.le_of_ble_eq_true rfl) d_M_refund_24 (c_M_refundOf hm ok (by omega) ?_)
    refine g_ret ?_
    refine g_istore_n (n := 2) (i := 2) rfl (by decide) rfl d_M_refund_27 ?_
    refine g_aload_n (n := 0) (i := 0) rfl rfl d_M_refund_28 ?_
    refine g_iload_n (n := 1) (i := 1) rfl rfl d_M_refund_29 ?_
    refine g_iconst_i d_M_refund_30 ?_
    refine g_iconst_i d_M_refund_31 ?_
    refine g_callV3 rfl rfl e_M_setC l_M_126 iv_M_setC 9 (by decide) rfl (by assumption) (by decide) (Nat.zero_le _) (Nat.zero_le _) (Nat.le_of_ble_eq_true rfl) d_M_refund_32 (c_M_setC hm (by omega) (by omega) (fun w hS => ?_))
    refine g_retv ?_
    have hC := hC.ms hm hS
    obtain ⟨f5, q5, hm, hC1, hC2, hC3, hC4, hC5, hC6, hC7⟩ := id hC
    obtain ⟨hn, u2, u3⟩ := id hm
    have k2 : g_cell E w im (gad E 62) _ := g_mut 62 (by omega) u2
    have k3 : g_cell E w im (gad E 63) _ := g_mut 63 (by omega) u3
    refine g_aload_n (n := 0) (i := 0) rfl rfl d_M_refund_35 ?_
    refine g_iload_n (n := 1) (i := 1) rfl rfl d_M_refund_36 ?_
    refine g_iconst_i d_M_refund_37 ?_
    refine g_iload_n (n := 2) (i := 2) rfl rfl d_M_refund_38 ?_
    refine g_callV3 rfl rfl e_M_setC l_M_126 iv_M_setC 9 (by decide) rfl (by assumption) (by decide) (Nat.zero_le _) (Nat.zero_le _) (Nat.le_of_ble_eq_true rfl) d_M_refund_39 (c_M_setC hm (by omega) (by omega) (fun w hS => ?_))
    refine g_retv ?_
    have hC := hC.ms hm hS
    obtain ⟨f5, q5, hm, hC1, hC2, hC3, hC4, hC5, hC6, hC7⟩ := id hC
    obtain ⟨hn, u2, u3⟩ := id hm
    have k2 : g_cell E w im (gad E 62) _ := g_mut 62 (by omega) u2
    have k3 : g_cell E w im (gad E 63) _ := g_mut 63 (by omega) u3
    refine g_iload_n (n := 2) (i := 2) rfl rfl d_M_refund_42 ?_
    refine g_ireturn_i rfl d_M_refund_43 ?_
    exact hQ 0 _ _ _ (by unfold gRefu; rw [if_pos hA, if_neg hB]) (Or.inl ⟨rfl, hC⟩)
  · refine g_ret ?_
    refine g_putA 9 6 62 (by omega) u2 f_M_33 (Or.inl rfl) (by rfl) (by rfl) (Nat.le_of_ble_eq_true rfl) d_M_refund_6 (fun w hs hn9 => ?_)
    have hth := hm.th (t := 1) hs hn9
    have hm0 := hm
    have hm := hth.1
    obtain ⟨hn, u2, u3⟩ := id hm
    have k2 : g_cell E w im (gad E 62) _ := g_mut 62 (by omega) u2
    have k3 : g_cell E w im (gad E 63) _ := g_mut 63 (by omega) u3
    have u4 := (hn9 64 (by omega)).trans u4
    have u6 : ∃ tr, w 66 = intE 3561 tr := by obtain ⟨tr, u6⟩ := u6; exact ⟨tr, (hn9 66 (by omega)).trans u6⟩
    have r22 : 0 ≤ fU f 6 (1) 2 ∧ fU f 6 (1) 2 ≤ 8 := r2
    refine g_aload_n (n := 0) (i := 0) rfl rfl d_M_refund_9 ?_
    refine g_getfield 9 6 f_M_33 k2 (by rfl) d_M_refund_10 ?_
    rw [hth.2.1]
    refine g_if_eq_i (tgt := 18) (by decide) d_M_refund_13 (by decide) (fun h => absurd h (by decide)) (fun h13 => ?_)
    refine g_iconst_i d_M_refund_16 ?_
    refine g_ireturn_i rfl d_M_refund_17 ?_
    exact hQ _ _ _ _ (by unfold gRefu; first | (rw [if_neg hA]; done) | (rw [if_pos hA, if_pos (by omega)]; done) | (rw [if_pos hA, if_neg (by omega), if_pos (by omega)]; done)) (Or.inr ⟨by omega, rfl, ⟨_, hm, hth.2.1, hth.2.2, hn9⟩⟩)

theorem rplF_0 {m : Int → Int} {x o : Int} : rplF m x o 0 = m := by
  funext j
  unfold rplF
  rw [if_neg (by omega)]
theorem rplF_4 {m : Int → Int} {x o k : Int} : rplF m x o k 4 = m 4 := if_neg (by omega)
theorem rplF_s1 {m : Int → Int} {x o k : Int} (hk : 0 ≤ k) (h : m (561 + 3 * k) = x) : uI (rplF m x o k) (561 + 3 * k) o = rplF m x o (k + 1) := by
  funext j
  unfold rplF
  simp only [uI]
  by_cases e : j = 561 + 3 * k
  · subst e
    rw [if_pos rfl]
    rw [if_pos ⟨by omega, by omega, by omega, h⟩]
  · rw [if_neg e]
    by_cases e3 : 561 ≤ j ∧ j < 561 + 3 * k ∧ (j - 561) % 3 = 0 ∧ m j = x
    · rw [if_pos e3, if_pos (by omega)]
    · rw [if_neg e3, if_neg (by omega)]
theorem rplF_s0 {m : Int → Int} {x o k : Int} (h : m (561 + 3 * k) ≠ x) : rplF m x o k = rplF m x o (k + 1) := by
  funext j
  unfold rplF
  by_cases e : j = 561 + 3 * k
  · subst e
    rw [if_neg (by omega), if_neg (fun h2 => h h2.2.2.2)]
  · by_cases e3 : 561 ≤ j ∧ j < 561 + 3 * k ∧ (j - 561) % 3 = 0 ∧ m j = x
    · rw [if_pos e3, if_pos (by omega)]
    · rw [if_neg e3, if_neg (by omega)]

theorem c_M_replaces {E : gE} {w : gW} {im : gIm} {Q : gQ} {f : Nat → Int} {m : Int → Int} (hm : MR E w f m) (ok : okM m) {x : Int} (rx : 0 ≤ x ∧ x < m 3) (r3 : 0 ≤ m 3 ∧ m 3 < 20) (hQ : ∀ w', MS E w f (rplM m x) w' → Q (oV (m 3)) w' im) : GM E 2 y_M_replaces m_M_replaces 0 0 [.ref (gad E 62), .int (iI x)] w im Q := by
  obtain ⟨hn, u2, u3⟩ := id hm
  have k2 : g_cell E w im (gad E 62) _ := g_mut 62 (by omega) u2
  have k3 : g_cell E w im (gad E 63) _ := g_mut 63 (by omega) u3
  obtain ⟨z0, z1, z2, z3, z4, z5, z6, z7, z8, z9⟩ := id ok
  have zx := z8 x rx
  have q4 : rpl3 m x 4 = m 4 := by unfold rpl3; rw [uI_n (by omega), uI_n (by omega), uI_n (by omega), comeM_n (by omega) (by omega) (by omega)]
  have loop : ∀ (n9 : Nat) (k9 : Int) (w1 : gW), 0 ≤ k9 → k9 + n9 = m 4 → MS E w f (rplF (rpl3 m x) x (m 3) k9) w1 → G E 2 m_M_replaces 40 [(0, .ref (gad E 62)), (1, .int (iI x)), (2, .int (iI (m 3))), (3, .int (iI k9))] [] w1 im 0 0 Q := by
    intro n9
    induction n9 with
    | zero =>
      intro k9 w h9 hk9 hS
      have e9 : k9 = m 4 := by omega
      obtain ⟨hm, hw9⟩ := id hS
      obtain ⟨hn, u2, u3⟩ := id hm
      have k2 : g_cell E w im (gad E 62) _ := g_mut 62 (by omega) u2
      have k3 : g_cell E w im (gad E 63) _ := g_mut 63 (by omega) u3
      refine g_iload_n (n := 3) (i := 3) rfl rfl d_M_replaces_40 ?_
      refine g_aload_n (n := 0) (i := 0) rfl rfl d_M_replaces_41 ?_
      refine g_getfield 9 0 f_M_9 (by assumption) (by rfl) d_M_replaces_42 ?_
      refine g_iconst_i d_M_replaces_45 ?_
      refine g_iaload_i k3 (by omega) (by omega) (by rfl) d_M_replaces_46 ?_
      rw [rplF_4, q4]
      refine g_icmp_ge_i (tgt := 79) (by omega) (by omega) d_M_replaces_47 (by decide) (fun h47 => ?_) (fun h => by exfalso; omega)
      refine g_iload_n (n := 2) (i := 2) rfl rfl d_M_replaces_79 ?_
      refine g_ireturn_i rfl d_M_replaces_80 ?_
      exact hQ _ (by rw [e9] at hS; exact hS)
    | succ n9 ih =>
      intro k9 w h9 hk9 hS
      have hlt : k9 < m 4 := by omega
      obtain ⟨hm, hw9⟩ := id hS
      obtain ⟨hn, u2, u3⟩ := id hm
      have k2 : g_cell E w im (gad E 62) _ := g_mut 62 (by omega) u2
      have k3 : g_cell E w im (gad E 63) _ := g_mut 63 (by omega) u3
      have zi := z9 k9 ⟨h9, hlt⟩
      have q5 : rplF (rpl3 m x) x (m 3) k9 (561 + 3 * k9 + 0) = m (561 + 3 * k9 + 0) := by rw [show rplF (rpl3 m x) x (m 3) k9 (561 + 3 * k9 + 0) = rpl3 m x (561 + 3 * k9 + 0) from if_neg (by omega)]; unfold rpl3; rw [uI_n (by omega), uI_n (by omega), uI_n (by omega), comeM_n (by omega) (by omega) (by omega)]
      have q6 : rpl3 m x (561 + 3 * k9) = m (561 + 3 * k9 + 0) := by rw [Int.add_zero]; unfold rpl3; rw [uI_n (by omega), uI_n (by omega), uI_n (by omega), comeM_n (by omega) (by omega) (by omega)]
      refine g_iload_n (n := 3) (i := 3) rfl rfl d_M_replaces_40 ?_
      refine g_aload_n (n := 0) (i := 0) rfl rfl d_M_replaces_41 ?_
      refine g_getfield 9 0 f_M_9 (by assumption) (by rfl) d_M_replaces_42 ?_
      refine g_iconst_i d_M_replaces_45 ?_
      refine g_iaload_i k3 (by omega) (by omega) (by rfl) d_M_replaces_46 ?_
      rw [rplF_4, q4]
      refine g_icmp_ge_i (tgt := 79) (by omega) (by omega) d_M_replaces_47 (by decide) (fun h => by exfalso; omega) (fun h47 => ?_)
      refine g_aload_n (n := 0) (i := 0) rfl rfl d_M_replaces_50 ?_
      refine g_iload_n (n := 3) (i := 3) rfl rfl d_M_replaces_51 ?_
      refine g_iconst_i d_M_replaces_52 ?_
      refine g_callV2 rfl rfl e_M_rideOf l_M_59 iv_M_rideOf 9 (by decide) rfl (by assumption) (by decide) (Nat.zero_le _) (Nat.zero_le _) (Nat.le_of_ble_eq_true rfl) d_M_replaces_53 (c_M_rideOf hm (by omega) (by omega) ?_)
      refine g_ret ?_
      rw [q5]
      refine g_iload_n (n := 1) (i := 1) rfl rfl d_M_replaces_56 ?_
      refine g_icmp_ne_i (tgt := 73) (by omega) (by omega) d_M_replaces_57 (by decide) (fun h57 => ?_) (fun h57 => ?_)
      · refine g_iinc_i (i := 3) rfl (by decide) rfl d_M_replaces_73 ?_
        refine g_goto (tgt := 40) (by decide) d_M_replaces_76 ?_
        first
        | exact g_cut (lv' := [(0, .ref (gad E 62)), (1, .int (iI x)), (2, .int (iI (m 3))), (3, .int (iI (k9 + 1)))]) ⟨rfl, rfl, rfl, rfl, trivial⟩ (ih (k9 + 1) _ (by omega) (by omega) (by rw [← rplF_s1 h9 (q6.trans (by assumption))]; exact hS))
        | exact g_cut (lv' := [(0, .ref (gad E 62)), (1, .int (iI x)), (2, .int (iI (m 3))), (3, .int (iI (k9 + 1)))]) ⟨rfl, rfl, rfl, rfl, trivial⟩ (ih (k9 + 1) _ (by omega) (by omega) (by rw [← rplF_s0 (fun h => absurd (q6.symm.trans h) (by assumption))]; exact hS))
      · refine g_aload_n (n := 0) (i := 0) rfl rfl d_M_replaces_60 ?_
        refine g_getfield 9 0 f_M_9 (by assumption) (by rfl) d_M_replaces_61 ?_
        refine g_sipush_i (by decide) d_M_replaces_64 ?_
        refine g_iconst_i d_M_replaces_67 ?_
        refine g_iload_n (n := 3) (i := 3) rfl rfl d_M_replaces_68 ?_
        refine g_imul_i d_M_replaces_69 ?_
        refine g_iadd_i d_M_replaces_70 ?_
        refine g_iload_n (n := 2) (i := 2) rfl rfl d_M_replaces_71 ?_
        refine g_iastoreA 63 (by omega) u3 (by omega) (by omega) (by rfl) d_M_replaces_72 (fun w hs hn9 => ?_)
        have hS := hS.trans (hm.row hs hn9)
        refine g_iinc_i (i := 3) rfl (by decide) rfl d_M_replaces_73 ?_
        refine g_goto (tgt := 40) (by decide) d_M_replaces_76 ?_
        first
        | exact g_cut (lv' := [(0, .ref (gad E 62)), (1, .int (iI x)), (2, .int (iI (m 3))), (3, .int (iI (k9 + 1)))]) ⟨rfl, rfl, rfl, rfl, trivial⟩ (ih (k9 + 1) _ (by omega) (by omega) (by rw [← rplF_s1 h9 (q6.trans (by assumption))]; exact hS))
        | exact g_cut (lv' := [(0, .ref (gad E 62)), (1, .int (iI x)), (2, .int (iI (m 3))), (3, .int (iI (k9 + 1)))]) ⟨rfl, rfl, rfl, rfl, trivial⟩ (ih (k9 + 1) _ (by omega) (by omega) (by rw [← rplF_s0 (fun h => absurd (q6.symm.trans h) (by assumption))]; exact hS))
  refine g_enter (by decide) rfl rfl (fun h => by first | rfl | cases h) (Nat.le_of_ble_eq_true rfl) rfl ?_
  refine g_aload_n (n := 0) (i := 0) rfl rfl d_M_replaces_0 ?_
  refine g_aload_n (n := 0) (i := 0) rfl rfl d_M_replaces_1 ?_
  refine g_iload_n (n := 1) (i := 1) rfl rfl d_M_replaces_2 ?_
  refine g_iconst_i d_M_replaces_3 ?_
  refine g_callV2 rfl rfl e_M_c l_M_90 iv_M_c 9 (by decide) rfl (by assumption) (by decide) (Nat.zero_le _) (Nat.zero_le _) (Nat.le_of_ble_eq_true rfl) d_M_replaces_4 (c_M_c hm (by omega) (by omega) ?_)
  refine g_ret ?_
  refine g_aload_n (n := 0) (i := 0) rfl rfl d_M_replaces_7 ?_
  refine g_iload_n (n := 1) (i := 1) rfl rfl d_M_replaces_8 ?_
  refine g_iconst_i d_M_replaces_9 ?_
  refine g_callV2 rfl rfl e_M_c l_M_90 iv_M_c 9 (by decide) rfl (by assumption) (by decide) (Nat.zero_le _) (Nat.zero_le _) (Nat.le_of_ble_eq_true rfl) d_M_replaces_10 (c_M_c hm (by omega) (by omega) ?_)
  refine g_ret ?_
  refine g_callV2 rfl rfl e_M_comesCard l_M_133 iv_M_comesCard 9 (by decide) rfl (by assumption) (by decide) (Nat.zero_le _) (Nat.zero_le _) (Nat.le_of_ble_eq_true rfl) d_M_replaces_13 (c_M_comesCard hm r3 (fun w hS => ?_))
  refine g_ret ?_
  obtain ⟨hm, hw9⟩ := id hS
  obtain ⟨hn, u2, u3⟩ := id hm
  have k2 : g_cell E w im (gad E 62) _ := g_mut 62 (by omega) u2
  have k3 : g_cell E w im (gad E 63) _ := g_mut 63 (by omega) u3
  refine g_istore_n (n := 2) (i := 2) rfl (by decide) rfl d_M_replaces_16 ?_
  refine g_aload_n (n := 0) (i := 0) rfl rfl d_M_replaces_17 ?_
  refine g_iload_n (n := 1) (i := 1) rfl rfl d_M_replaces_18 ?_
  refine g_iconst_i d_M_replaces_19 ?_
  refine g_iconst_i d_M_replaces_20 ?_
  refine g_callV3 rfl rfl e_M_setC l_M_126 iv_M_setC 9 (by decide) rfl (by assumption) (by decide) (Nat.zero_le _) (Nat.zero_le _) (Nat.le_of_ble_eq_true rfl) d_M_replaces_21 (c_M_setC hm (by omega) (by omega) (fun w hS2 => ?_))
  refine g_retv ?_
  have hS := hS.trans hS2
  obtain ⟨hm, hw9⟩ := id hS
  obtain ⟨hn, u2, u3⟩ := id hm
  have k2 : g_cell E w im (gad E 62) _ := g_mut 62 (by omega) u2
  have k3 : g_cell E w im (gad E 63) _ := g_mut 63 (by omega) u3
  refine g_aload_n (n := 0) (i := 0) rfl rfl d_M_replaces_24 ?_
  refine g_iload_n (n := 1) (i := 1) rfl rfl d_M_replaces_25 ?_
  refine g_iconst_i d_M_replaces_26 ?_
  refine g_iload_n (n := 2) (i := 2) rfl rfl d_M_replaces_27 ?_
  refine g_callV3 rfl rfl e_M_setC l_M_126 iv_M_setC 9 (by decide) rfl (by assumption) (by decide) (Nat.zero_le _) (Nat.zero_le _) (Nat.le_of_ble_eq_true rfl) d_M_replaces_28 (c_M_setC hm (by omega) (by omega) (fun w hS2 => ?_))
  refine g_retv ?_
  have hS := hS.trans hS2
  obtain ⟨hm, hw9⟩ := id hS
  obtain ⟨hn, u2, u3⟩ := id hm
  have k2 : g_cell E w im (gad E 62) _ := g_mut 62 (by omega) u2
  have k3 : g_cell E w im (gad E 63) _ := g_mut 63 (by omega) u3
  refine g_aload_n (n := 0) (i := 0) rfl rfl d_M_replaces_31 ?_
  refine g_iload_n (n := 1) (i := 1) rfl rfl d_M_replaces_32 ?_
  refine g_iconst_i d_M_replaces_33 ?_
  refine g_iconst_i d_M_replaces_34 ?_
  refine g_callV3 rfl rfl e_M_setC l_M_126 iv_M_setC 9 (by decide) rfl (by assumption) (by decide) (Nat.zero_le _) (Nat.zero_le _) (Nat.le_of_ble_eq_true rfl) d_M_replaces_35 (c_M_setC hm (by omega) (by omega) (fun w hS2 => ?_))
  refine g_retv ?_
  have hS := hS.trans hS2
  obtain ⟨hm, hw9⟩ := id hS
  obtain ⟨hn, u2, u3⟩ := id hm
  have k2 : g_cell E w im (gad E 62) _ := g_mut 62 (by omega) u2
  have k3 : g_cell E w im (gad E 63) _ := g_mut 63 (by omega) u3
  refine g_iconst_i d_M_replaces_38 ?_
  refine g_istore_n (n := 3) (i := 3) rfl (by decide) rfl d_M_replaces_39 ?_
  refine g_cut ?_ (loop (m 4).toNat 0 _ (by omega) (by omega) (by rw [rplF_0]; exact hS))
  exact ⟨rfl, rfl, rfl, rfl, trivial⟩

theorem c_M_replace {E : gE} {w : gW} {im : gIm} {Q : gQ} {f : Nat → Int} {m : Int → Int} (hm : MR E w f m) (ok : okM m) {pa : Int → Int} (u4 : w 64 = intE 28488 pa) (u6 : ∃ tr, w 66 = intE 3561 tr) (r2 : 0 ≤ f 2 ∧ f 2 ≤ 8) {x : Int} (rx : -2147483648 ≤ x ∧ x < 2147483648) (hQ : ∀ t r m' w', (t, r, m') = gRep m x → MOut E w f m pa t m' w' → Q (oV r) w' im) : GM E 4 y_M_replace m_M_replace 0 0 [.ref (gad E 62), .int (iI x)] w im Q := by
  obtain ⟨hn, u2, u3⟩ := id hm
  have k2 : g_cell E w im (gad E 62) _ := g_mut 62 (by omega) u2
  have k3 : g_cell E w im (gad E 63) _ := g_mut 63 (by omega) u3
  obtain ⟨z0, z1, z2, z3, z4, z5, z6, z7, z8, z9⟩ := id ok
  refine g_enter (by decide) rfl rfl (fun h => by first | rfl | cases h) (Nat.le_of_ble_eq_true rfl) rfl ?_
  refine g_aload_n (n := 0) (i := 0) rfl rfl d_M_replace_0 ?_
  refine g_aload_n (n := 0) (i := 0) rfl rfl d_M_replace_1 ?_
  refine g_iload_n (n := 1) (i := 1) rfl rfl d_M_replace_2 ?_
  refine g_callV1 rfl rfl e_M_replaceProblem l_M_160 iv_M_replaceProblem 9 (by decide) rfl (by assumption) (by decide) (Nat.zero_le _) (Nat.zero_le _) (Nat.le_of_ble_eq_true rfl) d_M_replace_3 (c_M_replaceProblem2 hm ok rx (fun hA hB => ?_) (fun hA hB => ?_) (fun hA => ?_))
  · refine g_ret ?_
    refine g_putA 9 6 62 (by omega) u2 f_M_33 (Or.inl rfl) (by rfl) (by rfl) (Nat.le_of_ble_eq_true rfl) d_M_replace_6 (fun w hs hn9 => ?_)
    have hth := hm.th (t := 2) hs hn9
    have hm0 := hm
    have hm := hth.1
    obtain ⟨hn, u2, u3⟩ := id hm
    have k2 : g_cell E w im (gad E 62) _ := g_mut 62 (by omega) u2
    have k3 : g_cell E w im (gad E 63) _ := g_mut 63 (by omega) u3
    have u4 := (hn9 64 (by omega)).trans u4
    have u6 : ∃ tr, w 66 = intE 3561 tr := by obtain ⟨tr, u6⟩ := u6; exact ⟨tr, (hn9 66 (by omega)).trans u6⟩
    have r22 : 0 ≤ fU f 6 (2) 2 ∧ fU f 6 (2) 2 ≤ 8 := r2
    refine g_aload_n (n := 0) (i := 0) rfl rfl d_M_replace_9 ?_
    refine g_getfield 9 6 f_M_33 k2 (by rfl) d_M_replace_10 ?_
    rw [hth.2.1]
    refine g_if_eq_i (tgt := 18) (by decide) d_M_replace_13 (by decide) (fun h => absurd h (by decide)) (fun h13 => ?_)
    refine g_iconst_i d_M_replace_16 ?_
    refine g_ireturn_i rfl d_M_replace_17 ?_
    exact hQ _ _ _ _ (by unfold gRep; first | (rw [if_neg hA]; done) | (rw [if_pos hA]; rcases hB with hB | hB <;> first | (rw [if_pos hB]; done) | (rw [if_pos hB, ite_self]; done))) (Or.inr ⟨by omega, rfl, ⟨_, hm, hth.2.1, hth.2.2, hn9⟩⟩)
  · refine g_ret ?_
    refine g_putA 9 6 62 (by omega) u2 f_M_33 (Or.inl rfl) (by rfl) (by rfl) (Nat.le_of_ble_eq_true rfl) d_M_replace_6 (fun w hs hn9 => ?_)
    have hth := hm.th (t := 0) hs hn9
    have hm0 := hm
    have hm := hth.1
    obtain ⟨hn, u2, u3⟩ := id hm
    have k2 : g_cell E w im (gad E 62) _ := g_mut 62 (by omega) u2
    have k3 : g_cell E w im (gad E 63) _ := g_mut 63 (by omega) u3
    have u4 := (hn9 64 (by omega)).trans u4
    have u6 : ∃ tr, w 66 = intE 3561 tr := by obtain ⟨tr, u6⟩ := u6; exact ⟨tr, (hn9 66 (by omega)).trans u6⟩
    have r22 : 0 ≤ fU f 6 (0) 2 ∧ fU f 6 (0) 2 ≤ 8 := r2
    refine g_aload_n (n := 0) (i := 0) rfl rfl d_M_replace_9 ?_
    refine g_getfield 9 6 f_M_33 k2 (by rfl) d_M_replace_10 ?_
    rw [hth.2.1]
    refine g_if_eq_i (tgt := 18) (by decide) d_M_replace_13 (by decide) (fun h13 => ?_) (fun h => absurd h (by decide))
    refine g_aload_n (n := 0) (i := 0) rfl rfl d_M_replace_18 ?_
    refine g_callV0 rfl rfl e_M_changes l_M_56 iv_M_changes 9 (by decide) rfl (by assumption) (by decide) (Nat.zero_le _) (Nat.zero_le _) (Nat.le_of_ble_eq_true rfl) d_M_replace_19 (c_M_changes hm u4 u6 r22 (fun w hG => ?_))
    refine g_retv ?_
    have hC := MCh.mk hth.2.2 hth.2.1 hn9 hG
    obtain ⟨f5, q5, hm, hC1, hC2, hC3, hC4, hC5, hC6, hC7⟩ := id hC
    obtain ⟨hn, u2, u3⟩ := id hm
    have k2 : g_cell E w im (gad E 62) _ := g_mut 62 (by omega) u2
    have k3 : g_cell E w im (gad E 63) _ := g_mut 63 (by omega) u3
    have r3' : 0 ≤ m 3 ∧ m 3 < 20 := by omega
    refine g_aload_n (n := 0) (i := 0) rfl rfl d_M_replace_22 ?_
    refine g_iload_n (n := 1) (i := 1) rfl rfl d_M_replace_23 ?_
    refine g_callV1 rfl rfl e_M_replaces l_M_163 iv_M_replaces 9 (by decide) rfl (by assumption) (by decide) (Nat.zero_le _) (Nat.zero_le _) (Nat.le_of_ble_eq_true rfl) d_M_replace_24 (c_M_replaces hm ok hA r3' (fun w hS => ?_))
    refine g_ret ?_
    have hC := hC.ms hm hS
    obtain ⟨f5, q5, hm, hC1, hC2, hC3, hC4, hC5, hC6, hC7⟩ := id hC
    obtain ⟨hn, u2, u3⟩ := id hm
    have k2 : g_cell E w im (gad E 62) _ := g_mut 62 (by omega) u2
    have k3 : g_cell E w im (gad E 63) _ := g_mut 63 (by omega) u3
    refine g_ireturn_i rfl d_M_replace_27 ?_
    exact hQ 0 _ _ _ (by unfold gRep; rw [if_pos hA, if_neg (by omega), if_neg (by omega)]) (Or.inl ⟨rfl, hC⟩)
  · refine g_ret ?_
    refine g_putA 9 6 62 (by omega) u2 f_M_33 (Or.inl rfl) (by rfl) (by rfl) (Nat.le_of_ble_eq_true rfl) d_M_replace_6 (fun w hs hn9 => ?_)
    have hth := hm.th (t := 1) hs hn9
    have hm0 := hm
    have hm := hth.1
    obtain ⟨hn, u2, u3⟩ := id hm
    have k2 : g_cell E w im (gad E 62) _ := g_mut 62 (by omega) u2
    have k3 : g_cell E w im (gad E 63) _ := g_mut 63 (by omega) u3
    have u4 := (hn9 64 (by omega)).trans u4
    have u6 : ∃ tr, w 66 = intE 3561 tr := by obtain ⟨tr, u6⟩ := u6; exact ⟨tr, (hn9 66 (by omega)).trans u6⟩
    have r22 : 0 ≤ fU f 6 (1) 2 ∧ fU f 6 (1) 2 ≤ 8 := r2
    refine g_aload_n (n := 0) (i := 0) rfl rfl d_M_replace_9 ?_
    refine g_getfield 9 6 f_M_33 k2 (by rfl) d_M_replace_10 ?_
    rw [hth.2.1]
    refine g_if_eq_i (tgt := 18) (by decide) d_M_replace_13 (by decide) (fun h => absurd h (by decide)) (fun h13 => ?_)
    refine g_iconst_i d_M_replace_16 ?_
    refine g_ireturn_i rfl d_M_replace_17 ?_
    exact hQ _ _ _ _ (by unfold gRep; first | (rw [if_neg hA]; done) | (rw [if_pos hA]; rcases hB with hB | hB <;> first | (rw [if_pos hB]; done) | (rw [if_pos hB, ite_self]; done))) (Or.inr ⟨by omega, rfl, ⟨_, hm, hth.2.1, hth.2.2, hn9⟩⟩)

