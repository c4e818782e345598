/-! ===== orders of a text; shares ===== -/
theorem rdMore_or {n : Nat} {t : Tx} : to' (rdMore n t) = to' t ∧ tl (rdMore n t) = tl t ∧ ts (rdMore n t) = ts t := by
  induction n generalizing t with
  | zero => exact ⟨rfl, rfl, rfl⟩
  | succ n ih =>
    rw [rdMore]
    split
    · exact ih (t := tDg t)
    · exact ⟨rfl, rfl, rfl⟩
theorem rdNum_or {t : Tx} : to' (rdNum t).2 = to' t ∧ tl (rdNum t).2 = tl t ∧ ts (rdNum t).2 = ts t := by
  unfold rdNum
  split
  · exact rdMore_or (t := tDg (tNm t 0))
  · exact ⟨rfl, rfl, rfl⟩
theorem rdSale_or {t : Tx} : to' (rdSale t).2 = to' t ∧ tl (rdSale t).2 = tl t ∧ ts (rdSale t).2 = ts t := by
  unfold rdSale
  (repeat' split) <;> exact ⟨rfl, rfl, rfl⟩
theorem rdOrder_or {t : Tx} : to' (rdOrder t).2 = to' t ∧ tl (rdOrder t).2 = tl t ∧ ts (rdOrder t).2 = ts t := by
  unfold rdOrder
  split
  · exact rdSale_or (t := tSk (tLt t (sg t)))
  · split
    · exact rdNum_or (t := tSk (tLt t (sg t)))
    · exact ⟨rfl, rfl, rfl⟩

theorem c_T_takeOrder {E : gE} {w : gW} {im : gIm} {Q : gQ} {t : Tx} (ht : TW E w t) (hQ1 : (rdOrder t).1 = true → ∀ w', TN E w (rdOrder t).2 w' → Q (.inl (some (.int (iI 1)))) w' im) (hQ2 : (rdOrder t).1 = false → ∀ w', TN E w (rdOrder t).2 w' → Q (.inl (some (.int (iI 0)))) w' im) : GM E 3 y_T_takeOrder m_T_takeOrder 0 0 [.ref (gad E 58)] w im Q := by
  have ht9 := ht
  obtain ⟨hn, y0, y1, ok⟩ := ht9
  have hsr := sg_rng ok
  have ok9 := ok
  obtain ⟨a1, a2, a3, a4, a5, a6, a7⟩ := ok9
  have kt : g_cell E w im (gad E 58) _ := g_mut 58 (by omega) y0
  have ks : g_cell E w im (gad E 59) _ := g_mut 59 (by omega) y1
  have hfr : ∀ j, j ≠ 58 → j ≠ 59 → w j = w j := fun _ _ _ => rfl
  refine g_enter (by decide) rfl rfl (fun h => by first | rfl | cases h) (Nat.le_of_ble_eq_true rfl) rfl ?_
  refine g_aload_n (n := 0) (i := 0) rfl rfl d_T_takeOrder_0 ?_
  refine g_aload_n (n := 0) (i := 0) rfl rfl d_T_takeOrder_1 ?_
  refine g_callV0 rfl rfl e_T_sign l_T_46 iv_T_sign 3 (by decide) rfl (by assumption) (by decide) (Nat.zero_le _) (Nat.zero_le _) (Nat.le_of_ble_eq_true rfl) d_T_takeOrder_2 (c_T_sign ht ?_)
  refine g_ret ?_
  refine g_putA 3 4 58 (by omega) y0 f_T_25 (Or.inl rfl) (by first | rfl | exact (iI_char (by omega)).1) (by first | rfl | exact (iI_char (by omega)).2) (Nat.le_of_ble_eq_true rfl) d_T_takeOrder_5 (fun w hs hn9 => ?_)
  have y0 : w 58 = tE E (tLt t (sg t)) := hs
  have y1 : w 59 = chE (tLt t (sg t)) := (hn9 59 (by omega)).trans y1
  have hfr := fun j (h1 : j ≠ 58) (h2 : j ≠ 59) => (hn9 j h1).trans (hfr j h1 h2)
  have kt : g_cell E w im (gad E 58) _ := g_mut 58 (by omega) y0
  have ks : g_cell E w im (gad E 59) _ := g_mut 59 (by omega) y1
  refine g_aload_n (n := 0) (i := 0) rfl rfl d_T_takeOrder_8 ?_
  refine g_getfield 3 4 f_T_25 (by assumption) (by rfl) d_T_takeOrder_9 ?_
  change G E 3 m_T_takeOrder 12 _ [.int (iI (sg t))] _ im 0 0 Q
  have hsw12 : sg t = 98 ∨ sg t = 99 ∨ sg t = 100 ∨ sg t = 101 ∨ sg t = 102 ∨ sg t = 103 ∨ sg t = 104 ∨ sg t = 105 ∨ sg t = 106 ∨ sg t = 107 ∨ sg t = 108 ∨ sg t = 109 ∨ sg t = 110 ∨ sg t = 111 ∨ sg t = 112 ∨ sg t = 113 ∨ sg t = 114 ∨ sg t = 115 ∨ sg t = 116 ∨ sg t = 117 ∨ sg t = 118 ∨ sg t = 119 ∨ (sg t < 98 ∨ 119 < sg t) := by omega
  rcases hsw12 with hz | hz | hz | hz | hz | hz | hz | hz | hz | hz | hz | hz | hz | hz | hz | hz | hz | hz | hz | hz | hz | hz | hsw12
  · rw [hz]
    refine g_tableIn (off := 119) (tgt := 131) d_T_takeOrder_12 (by decide) (by decide) (by decide) (by decide) ?_
    refine g_aload_n (n := 0) (i := 0) rfl rfl d_T_takeOrder_131 ?_
    refine g_dup rfl d_T_takeOrder_132 ?_
    refine g_getfield 3 2 f_T_19 (by assumption) (by rfl) d_T_takeOrder_133 ?_
    refine g_iconst_i d_T_takeOrder_136 ?_
    refine g_iadd_i d_T_takeOrder_137 ?_
    refine g_putA 3 2 58 (by omega) y0 f_T_19 (Or.inl rfl) (by first | rfl | exact (iI_char (by omega)).1) (by first | rfl | exact (iI_char (by omega)).2) (Nat.le_of_ble_eq_true rfl) d_T_takeOrder_138 (fun w hs hn9 => ?_)
    have y0 : w 58 = tE E (tSk (tLt t (sg t))) := hs
    have y1 : w 59 = chE (tSk (tLt t (sg t))) := (hn9 59 (by omega)).trans y1
    have hfr := fun j (h1 : j ≠ 58) (h2 : j ≠ 59) => (hn9 j h1).trans (hfr j h1 h2)
    have kt : g_cell E w im (gad E 58) _ := g_mut 58 (by omega) y0
    have ks : g_cell E w im (gad E 59) _ := g_mut 59 (by omega) y1
    have ok : okT (tSk (tLt t (sg t))) := tSk_ok (ok.lt hsr) (show sg t ≠ 0 by rw [hz]; decide)
    have hT0 : TN E _ (tSk (tLt t (sg t))) w := ⟨⟨hn, y0, y1, ok⟩, hfr⟩
    refine g_aload_n (n := 0) (i := 0) rfl rfl d_T_takeOrder_141 ?_
    refine g_callV0 rfl rfl e_T_takeNumber l_T_53 iv_T_takeNumber 3 (by decide) rfl (by assumption) (by decide) (Nat.zero_le _) (Nat.zero_le _) (Nat.le_of_ble_eq_true rfl) d_T_takeOrder_142 (c_T_takeNumber hT0.1 (fun hB w hT => ?_) (fun hB w hT => ?_))
    · refine g_ret ?_
      refine g_ireturn_1 rfl d_T_takeOrder_145 ?_
      have he : rdOrder t = rdNum (tSk (tLt t (sg t))) := by unfold rdOrder; rw [if_neg (by rw [hz]; decide), if_pos (by rw [hz]; decide)]
      rw [he] at hQ1 hQ2
      first | exact hQ1 hB _ (hT0.trans hT) | exact hQ2 hB _ (hT0.trans hT)
    · refine g_ret ?_
      refine g_ireturn_0 rfl d_T_takeOrder_145 ?_
      have he : rdOrder t = rdNum (tSk (tLt t (sg t))) := by unfold rdOrder; rw [if_neg (by rw [hz]; decide), if_pos (by rw [hz]; decide)]
      rw [he] at hQ1 hQ2
      first | exact hQ1 hB _ (hT0.trans hT) | exact hQ2 hB _ (hT0.trans hT)
  · rw [hz]
    refine g_tableIn (off := 119) (tgt := 131) d_T_takeOrder_12 (by decide) (by decide) (by decide) (by decide) ?_
    refine g_aload_n (n := 0) (i := 0) rfl rfl d_T_takeOrder_131 ?_
    refine g_dup rfl d_T_takeOrder_132 ?_
    refine g_getfield 3 2 f_T_19 (by assumption) (by rfl) d_T_takeOrder_133 ?_
    refine g_iconst_i d_T_takeOrder_136 ?_
    refine g_iadd_i d_T_takeOrder_137 ?_
    refine g_putA 3 2 58 (by omega) y0 f_T_19 (Or.inl rfl) (by first | rfl | exact (iI_char (by omega)).1) (by first | rfl | exact (iI_char (by omega)).2) (Nat.le_of_ble_eq_true rfl) d_T_takeOrder_138 (fun w hs hn9 => ?_)
    have y0 : w 58 = tE E (tSk (tLt t (sg t))) := hs
    have y1 : w 59 = chE (tSk (tLt t (sg t))) := (hn9 59 (by omega)).trans y1
    have hfr := fun j (h1 : j ≠ 58) (h2 : j ≠ 59) => (hn9 j h1).trans (hfr j h1 h2)
    have kt : g_cell E w im (gad E 58) _ := g_mut 58 (by omega) y0
    have ks : g_cell E w im (gad E 59) _ := g_mut 59 (by omega) y1
    have ok : okT (tSk (tLt t (sg t))) := tSk_ok (ok.lt hsr) (show sg t ≠ 0 by rw [hz]; decide)
    have hT0 : TN E _ (tSk (tLt t (sg t))) w := ⟨⟨hn, y0, y1, ok⟩, hfr⟩
    refine g_aload_n (n := 0) (i := 0) rfl rfl d_T_takeOrder_141 ?_
    refine g_callV0 rfl rfl e_T_takeNumber l_T_53 iv_T_takeNumber 3 (by decide) rfl (by assumption) (by decide) (Nat.zero_le _) (Nat.zero_le _) (Nat.le_of_ble_eq_true rfl) d_T_takeOrder_142 (c_T_takeNumber hT0.1 (fun hB w hT => ?_) (fun hB w hT => ?_))
    · refine g_ret ?_
      refine g_ireturn_1 rfl d_T_takeOrder_145 ?_
      have he : rdOrder t = rdNum (tSk (tLt t (sg t))) := by unfold rdOrder; rw [if_neg (by rw [hz]; decide), if_pos (by rw [hz]; decide)]
      rw [he] at hQ1 hQ2
      first | exact hQ1 hB _ (hT0.trans hT) | exact hQ2 hB _ (hT0.trans hT)
    · refine g_ret ?_
      refine g_ireturn_0 rfl d_T_takeOrder_145 ?_
      have he : rdOrder t = rdNum (tSk (tLt t (sg t))) := by unfold rdOrder; rw [if_neg (by rw [hz]; decide), if_pos (by rw [hz]; decide)]
      rw [he] at hQ1 hQ2
      first | exact hQ1 hB _ (hT0.trans hT) | exact hQ2 hB _ (hT0.trans hT)
  · rw [hz]
    refine g_tableIn (off := 134) (tgt := 146) d_T_takeOrder_12 (by decide) (by decide) (by decide) (by decide) ?_
    refine g_iconst_i d_T_takeOrder_146 ?_
    refine g_ireturn_0 rfl d_T_takeOrder_147 ?_
    have he : rdOrder t = (false, tLt t (sg t)) := by unfold rdOrder; rw [if_neg (by omega), if_neg (by simp only [numLB, decide_eq_true_eq]; omega)]
    rw [he] at hQ2
    exact hQ2 rfl _ ⟨⟨hn, y0, y1, ok.lt hsr⟩, hfr⟩
  · rw [hz]
    refine g_tableIn (off := 134) (tgt := 146) d_T_takeOrder_12 (by decide) (by decide) (by decide) (by decide) ?_
    refine g_iconst_i d_T_takeOrder_146 ?_
    refine g_ireturn_0 rfl d_T_takeOrder_147 ?_
    have he : rdOrder t = (false, tLt t (sg t)) := by unfold rdOrder; rw [if_neg (by omega), if_neg (by simp only [numLB, decide_eq_true_eq]; omega)]
    rw [he] at hQ2
    exact hQ2 rfl _ ⟨⟨hn, y0, y1, ok.lt hsr⟩, hfr⟩
  · rw [hz]
    refine g_tableIn (off := 134) (tgt := 146) d_T_takeOrder_12 (by decide) (by decide) (by decide) (by decide) ?_
    refine g_iconst_i d_T_takeOrder_146 ?_
    refine g_ireturn_0 rfl d_T_takeOrder_147 ?_
    have he : rdOrder t = (false, tLt t (sg t)) := by unfold rdOrder; rw [if_neg (by omega), if_neg (by simp only [numLB, decide_eq_true_eq]; omega)]
    rw [he] at hQ2
    exact hQ2 rfl _ ⟨⟨hn, y0, y1, ok.lt hsr⟩, hfr⟩
  · rw [hz]
    refine g_tableIn (off := 134) (tgt := 146) d_T_takeOrder_12 (by decide) (by decide) (by decide) (by decide) ?_
    refine g_iconst_i d_T_takeOrder_146 ?_
    refine g_ireturn_0 rfl d_T_takeOrder_147 ?_
    have he : rdOrder t = (false, tLt t (sg t)) := by unfold rdOrder; rw [if_neg (by omega), if_neg (by simp only [numLB, decide_eq_true_eq]; omega)]
    rw [he] at hQ2
    exact hQ2 rfl _ ⟨⟨hn, y0, y1, ok.lt hsr⟩, hfr⟩
  · rw [hz]
    refine g_tableIn (off := 134) (tgt := 146) d_T_takeOrder_12 (by decide) (by decide) (by decide) (by decide) ?_
    refine g_iconst_i d_T_takeOrder_146 ?_
    refine g_ireturn_0 rfl d_T_takeOrder_147 ?_
    have he : rdOrder t = (false, tLt t (sg t)) := by unfold rdOrder; rw [if_neg (by omega), if_neg (by simp only [numLB, decide_eq_true_eq]; omega)]
    rw [he] at hQ2
    exact hQ2 rfl _ ⟨⟨hn, y0, y1, ok.lt hsr⟩, hfr⟩
  · rw [hz]
    refine g_tableIn (off := 134) (tgt := 146) d_T_takeOrder_12 (by decide) (by decide) (by decide) (by decide) ?_
    refine g_iconst_i d_T_takeOrder_146 ?_
    refine g_ireturn_0 rfl d_T_takeOrder_147 ?_
    have he : rdOrder t = (false, tLt t (sg t)) := by unfold rdOrder; rw [if_neg (by omega), if_neg (by simp only [numLB, decide_eq_true_eq]; omega)]
    rw [he] at hQ2
    exact hQ2 rfl _ ⟨⟨hn, y0, y1, ok.lt hsr⟩, hfr⟩
  · rw [hz]
    refine g_tableIn (off := 134) (tgt := 146) d_T_takeOrder_12 (by decide) (by decide) (by decide) (by decide) ?_
    refine g_iconst_i d_T_takeOrder_146 ?_
    refine g_ireturn_0 rfl d_T_takeOrder_147 ?_
    have he : rdOrder t = (false, tLt t (sg t)) := by unfold rdOrder; rw [if_neg (by omega), if_neg (by simp only [numLB, decide_eq_true_eq]; omega)]
    rw [he] at hQ2
    exact hQ2 rfl _ ⟨⟨hn, y0, y1, ok.lt hsr⟩, hfr⟩
  · rw [hz]
    refine g_tableIn (off := 134) (tgt := 146) d_T_takeOrder_12 (by decide) (by decide) (by decide) (by decide) ?_
    refine g_iconst_i d_T_takeOrder_146 ?_
    refine g_ireturn_0 rfl d_T_takeOrder_147 ?_
    have he : rdOrder t = (false, tLt t (sg t)) := by unfold rdOrder; rw [if_neg (by omega), if_neg (by simp only [numLB, decide_eq_true_eq]; omega)]
    rw [he] at hQ2
    exact hQ2 rfl _ ⟨⟨hn, y0, y1, ok.lt hsr⟩, hfr⟩
  · rw [hz]
    refine g_tableIn (off := 134) (tgt := 146) d_T_takeOrder_12 (by decide) (by decide) (by decide) (by decide) ?_
    refine g_iconst_i d_T_takeOrder_146 ?_
    refine g_ireturn_0 rfl d_T_takeOrder_147 ?_
    have he : rdOrder t = (false, tLt t (sg t)) := by unfold rdOrder; rw [if_neg (by omega), if_neg (by simp only [numLB, decide_eq_true_eq]; omega)]
    rw [he] at hQ2
    exact hQ2 rfl _ ⟨⟨hn, y0, y1, ok.lt hsr⟩, hfr⟩
  · rw [hz]
    refine g_tableIn (off := 134) (tgt := 146) d_T_takeOrder_12 (by decide) (by decide) (by decide) (by decide) ?_
    refine g_iconst_i d_T_takeOrder_146 ?_
    refine g_ireturn_0 rfl d_T_takeOrder_147 ?_
    have he : rdOrder t = (false, tLt t (sg t)) := by unfold rdOrder; rw [if_neg (by omega), if_neg (by simp only [numLB, decide_eq_true_eq]; omega)]
    rw [he] at hQ2
    exact hQ2 rfl _ ⟨⟨hn, y0, y1, ok.lt hsr⟩, hfr⟩
  · rw [hz]
    refine g_tableIn (off := 134) (tgt := 146) d_T_takeOrder_12 (by decide) (by decide) (by decide) (by decide) ?_
    refine g_iconst_i d_T_takeOrder_146 ?_
    refine g_ireturn_0 rfl d_T_takeOrder_147 ?_
    have he : rdOrder t = (false, tLt t (sg t)) := by unfold rdOrder; rw [if_neg (by omega), if_neg (by simp only [numLB, decide_eq_true_eq]; omega)]
    rw [he] at hQ2
    exact hQ2 rfl _ ⟨⟨hn, y0, y1, ok.lt hsr⟩, hfr⟩
  · rw [hz]
    refine g_tableIn (off := 119) (tgt := 131) d_T_takeOrder_12 (by decide) (by decide) (by decide) (by decide) ?_
    refine g_aload_n (n := 0) (i := 0) rfl rfl d_T_takeOrder_131 ?_
    refine g_dup rfl d_T_takeOrder_132 ?_
    refine g_getfield 3 2 f_T_19 (by assumption) (by rfl) d_T_takeOrder_133 ?_
    refine g_iconst_i d_T_takeOrder_136 ?_
    refine g_iadd_i d_T_takeOrder_137 ?_
    refine g_putA 3 2 58 (by omega) y0 f_T_19 (Or.inl rfl) (by first | rfl | exact (iI_char (by omega)).1) (by first | rfl | exact (iI_char (by omega)).2) (Nat.le_of_ble_eq_true rfl) d_T_takeOrder_138 (fun w hs hn9 => ?_)
    have y0 : w 58 = tE E (tSk (tLt t (sg t))) := hs
    have y1 : w 59 = chE (tSk (tLt t (sg t))) := (hn9 59 (by omega)).trans y1
    have hfr := fun j (h1 : j ≠ 58) (h2 : j ≠ 59) => (hn9 j h1).trans (hfr j h1 h2)
    have kt : g_cell E w im (gad E 58) _ := g_mut 58 (by omega) y0
    have ks : g_cell E w im (gad E 59) _ := g_mut 59 (by omega) y1
    have ok : okT (tSk (tLt t (sg t))) := tSk_ok (ok.lt hsr) (show sg t ≠ 0 by rw [hz]; decide)
    have hT0 : TN E _ (tSk (tLt t (sg t))) w := ⟨⟨hn, y0, y1, ok⟩, hfr⟩
    refine g_aload_n (n := 0) (i := 0) rfl rfl d_T_takeOrder_141 ?_
    refine g_callV0 rfl rfl e_T_takeNumber l_T_53 iv_T_takeNumber 3 (by decide) rfl (by assumption) (by decide) (Nat.zero_le _) (Nat.zero_le _) (Nat.le_of_ble_eq_true rfl) d_T_takeOrder_142 (c_T_takeNumber hT0.1 (fun hB w hT => ?_) (fun hB w hT => ?_))
    · refine g_ret ?_
      refine g_ireturn_1 rfl d_T_takeOrder_145 ?_
      have he : rdOrder t = rdNum (tSk (tLt t (sg t))) := by unfold rdOrder; rw [if_neg (by rw [hz]; decide), if_pos (by rw [hz]; decide)]
      rw [he] at hQ1 hQ2
      first | exact hQ1 hB _ (hT0.trans hT) | exact hQ2 hB _ (hT0.trans hT)
    · refine g_ret ?_
      refine g_ireturn_0 rfl d_T_takeOrder_145 ?_
      have he : rdOrder t = rdNum (tSk (tLt t (sg t))) := by unfold rdOrder; rw [if_neg (by rw [hz]; decide), if_pos (by rw [hz]; decide)]
      rw [he] at hQ1 hQ2
      first | exact hQ1 hB _ (hT0.trans hT) | exact hQ2 hB _ (hT0.trans hT)
  · rw [hz]
    refine g_tableIn (off := 134) (tgt := 146) d_T_takeOrder_12 (by decide) (by decide) (by decide) (by decide) ?_
    refine g_iconst_i d_T_takeOrder_146 ?_
    refine g_ireturn_0 rfl d_T_takeOrder_147 ?_
    have he : rdOrder t = (false, tLt t (sg t)) := by unfold rdOrder; rw [if_neg (by omega), if_neg (by simp only [numLB, decide_eq_true_eq]; omega)]
    rw [he] at hQ2
    exact hQ2 rfl _ ⟨⟨hn, y0, y1, ok.lt hsr⟩, hfr⟩
  · rw [hz]
    refine g_tableIn (off := 134) (tgt := 146) d_T_takeOrder_12 (by decide) (by decide) (by decide) (by decide) ?_
    refine g_iconst_i d_T_takeOrder_146 ?_
    refine g_ireturn_0 rfl d_T_takeOrder_147 ?_
    have he : rdOrder t = (false, tLt t (sg t)) := by unfold rdOrder; rw [if_neg (by omega), if_neg (by simp only [numLB, decide_eq_true_eq]; omega)]
    rw [he] at hQ2
    exact hQ2 rfl _ ⟨⟨hn, y0, y1, ok.lt hsr⟩, hfr⟩
  · rw [hz]
    refine g_tableIn (off := 119) (tgt := 131) d_T_takeOrder_12 (by decide) (by decide) (by decide) (by decide) ?_
    refine g_aload_n (n := 0) (i := 0) rfl rfl d_T_takeOrder_131 ?_
    refine g_dup rfl d_T_takeOrder_132 ?_
    refine g_getfield 3 2 f_T_19 (by assumption) (by rfl) d_T_takeOrder_133 ?_
    refine g_iconst_i d_T_takeOrder_136 ?_
    refine g_iadd_i d_T_takeOrder_137 ?_
    refine g_putA 3 2 58 (by omega) y0 f_T_19 (Or.inl rfl) (by first | rfl | exact (iI_char (by omega)).1) (by first | rfl | exact (iI_char (by omega)).2) (Nat.le_of_ble_eq_true rfl) d_T_takeOrder_138 (fun w hs hn9 => ?_)
    have y0 : w 58 = tE E (tSk (tLt t (sg t))) := hs
    have y1 : w 59 = chE (tSk (tLt t (sg t))) := (hn9 59 (by omega)).trans y1
    have hfr := fun j (h1 : j ≠ 58) (h2 : j ≠ 59) => (hn9 j h1).trans (hfr j h1 h2)
    have kt : g_cell E w im (gad E 58) _ := g_mut 58 (by omega) y0
    have ks : g_cell E w im (gad E 59) _ := g_mut 59 (by omega) y1
    have ok : okT (tSk (tLt t (sg t))) := tSk_ok (ok.lt hsr) (show sg t ≠ 0 by rw [hz]; decide)
    have hT0 : TN E _ (tSk (tLt t (sg t))) w := ⟨⟨hn, y0, y1, ok⟩, hfr⟩
    refine g_aload_n (n := 0) (i := 0) rfl rfl d_T_takeOrder_141 ?_
    refine g_callV0 rfl rfl e_T_takeNumber l_T_53 iv_T_takeNumber 3 (by decide) rfl (by assumption) (by decide) (Nat.zero_le _) (Nat.zero_le _) (Nat.le_of_ble_eq_true rfl) d_T_takeOrder_142 (c_T_takeNumber hT0.1 (fun hB w hT => ?_) (fun hB w hT => ?_))
    · refine g_ret ?_
      refine g_ireturn_1 rfl d_T_takeOrder_145 ?_
      have he : rdOrder t = rdNum (tSk (tLt t (sg t))) := by unfold rdOrder; rw [if_neg (by rw [hz]; decide), if_pos (by rw [hz]; decide)]
      rw [he] at hQ1 hQ2
      first | exact hQ1 hB _ (hT0.trans hT) | exact hQ2 hB _ (hT0.trans hT)
    · refine g_ret ?_
      refine g_ireturn_0 rfl d_T_takeOrder_145 ?_
      have he : rdOrder t = rdNum (tSk (tLt t (sg t))) := by unfold rdOrder; rw [if_neg (by rw [hz]; decide), if_pos (by rw [hz]; decide)]
      rw [he] at hQ1 hQ2
      first | exact hQ1 hB _ (hT0.trans hT) | exact hQ2 hB _ (hT0.trans hT)
  · rw [hz]
    refine g_tableIn (off := 104) (tgt := 116) d_T_takeOrder_12 (by decide) (by decide) (by decide) (by decide) ?_
    refine g_aload_n (n := 0) (i := 0) rfl rfl d_T_takeOrder_116 ?_
    refine g_dup rfl d_T_takeOrder_117 ?_
    refine g_getfield 3 2 f_T_19 (by assumption) (by rfl) d_T_takeOrder_118 ?_
    refine g_iconst_i d_T_takeOrder_121 ?_
    refine g_iadd_i d_T_takeOrder_122 ?_
    refine g_putA 3 2 58 (by omega) y0 f_T_19 (Or.inl rfl) (by first | rfl | exact (iI_char (by omega)).1) (by first | rfl | exact (iI_char (by omega)).2) (Nat.le_of_ble_eq_true rfl) d_T_takeOrder_123 (fun w hs hn9 => ?_)
    have y0 : w 58 = tE E (tSk (tLt t (sg t))) := hs
    have y1 : w 59 = chE (tSk (tLt t (sg t))) := (hn9 59 (by omega)).trans y1
    have hfr := fun j (h1 : j ≠ 58) (h2 : j ≠ 59) => (hn9 j h1).trans (hfr j h1 h2)
    have kt : g_cell E w im (gad E 58) _ := g_mut 58 (by omega) y0
    have ks : g_cell E w im (gad E 59) _ := g_mut 59 (by omega) y1
    have ok : okT (tSk (tLt t (sg t))) := tSk_ok (ok.lt hsr) (show sg t ≠ 0 by rw [hz]; decide)
    have hT0 : TN E _ (tSk (tLt t (sg t))) w := ⟨⟨hn, y0, y1, ok⟩, hfr⟩
    refine g_aload_n (n := 0) (i := 0) rfl rfl d_T_takeOrder_126 ?_
    refine g_callV0 rfl rfl e_T_takeSale l_T_50 iv_T_takeSale 3 (by decide) rfl (by assumption) (by decide) (Nat.zero_le _) (Nat.zero_le _) (Nat.le_of_ble_eq_true rfl) d_T_takeOrder_127 (c_T_takeSale hT0.1 (fun hB w hT => ?_) (fun hB w hT => ?_))
    · refine g_ret ?_
      refine g_ireturn_1 rfl d_T_takeOrder_130 ?_
      have he : rdOrder t = rdSale (tSk (tLt t (sg t))) := by unfold rdOrder; rw [if_pos hz]
      rw [he] at hQ1 hQ2
      first | exact hQ1 hB _ (hT0.trans hT) | exact hQ2 hB _ (hT0.trans hT)
    · refine g_ret ?_
      refine g_ireturn_0 rfl d_T_takeOrder_130 ?_
      have he : rdOrder t = rdSale (tSk (tLt t (sg t))) := by unfold rdOrder; rw [if_pos hz]
      rw [he] at hQ1 hQ2
      first | exact hQ1 hB _ (hT0.trans hT) | exact hQ2 hB _ (hT0.trans hT)
  · rw [hz]
    refine g_tableIn (off := 134) (tgt := 146) d_T_takeOrder_12 (by decide) (by decide) (by decide) (by decide) ?_
    refine g_iconst_i d_T_takeOrder_146 ?_
    refine g_ireturn_0 rfl d_T_takeOrder_147 ?_
    have he : rdOrder t = (false, tLt t (sg t)) := by unfold rdOrder; rw [if_neg (by omega), if_neg (by simp only [numLB, decide_eq_true_eq]; omega)]
    rw [he] at hQ2
    exact hQ2 rfl _ ⟨⟨hn, y0, y1, ok.lt hsr⟩, hfr⟩
  · rw [hz]
    refine g_tableIn (off := 119) (tgt := 131) d_T_takeOrder_12 (by decide) (by decide) (by decide) (by decide) ?_
    refine g_aload_n (n := 0) (i := 0) rfl rfl d_T_takeOrder_131 ?_
    refine g_dup rfl d_T_takeOrder_132 ?_
    refine g_getfield 3 2 f_T_19 (by assumption) (by rfl) d_T_takeOrder_133 ?_
    refine g_iconst_i d_T_takeOrder_136 ?_
    refine g_iadd_i d_T_takeOrder_137 ?_
    refine g_putA 3 2 58 (by omega) y0 f_T_19 (Or.inl rfl) (by first | rfl | exact (iI_char (by omega)).1) (by first | rfl | exact (iI_char (by omega)).2) (Nat.le_of_ble_eq_true rfl) d_T_takeOrder_138 (fun w hs hn9 => ?_)
    have y0 : w 58 = tE E (tSk (tLt t (sg t))) := hs
    have y1 : w 59 = chE (tSk (tLt t (sg t))) := (hn9 59 (by omega)).trans y1
    have hfr := fun j (h1 : j ≠ 58) (h2 : j ≠ 59) => (hn9 j h1).trans (hfr j h1 h2)
    have kt : g_cell E w im (gad E 58) _ := g_mut 58 (by omega) y0
    have ks : g_cell E w im (gad E 59) _ := g_mut 59 (by omega) y1
    have ok : okT (tSk (tLt t (sg t))) := tSk_ok (ok.lt hsr) (show sg t ≠ 0 by rw [hz]; decide)
    have hT0 : TN E _ (tSk (tLt t (sg t))) w := ⟨⟨hn, y0, y1, ok⟩, hfr⟩
    refine g_aload_n (n := 0) (i := 0) rfl rfl d_T_takeOrder_141 ?_
    refine g_callV0 rfl rfl e_T_takeNumber l_T_53 iv_T_takeNumber 3 (by decide) rfl (by assumption) (by decide) (Nat.zero_le _) (Nat.zero_le _) (Nat.le_of_ble_eq_true rfl) d_T_takeOrder_142 (c_T_takeNumber hT0.1 (fun hB w hT => ?_) (fun hB w hT => ?_))
    · refine g_ret ?_
      refine g_ireturn_1 rfl d_T_takeOrder_145 ?_
      have he : rdOrder t = rdNum (tSk (tLt t (sg t))) := by unfold rdOrder; rw [if_neg (by rw [hz]; decide), if_pos (by rw [hz]; decide)]
      rw [he] at hQ1 hQ2
      first | exact hQ1 hB _ (hT0.trans hT) | exact hQ2 hB _ (hT0.trans hT)
    · refine g_ret ?_
      refine g_ireturn_0 rfl d_T_takeOrder_145 ?_
      have he : rdOrder t = rdNum (tSk (tLt t (sg t))) := by unfold rdOrder; rw [if_neg (by rw [hz]; decide), if_pos (by rw [hz]; decide)]
      rw [he] at hQ1 hQ2
      first | exact hQ1 hB _ (hT0.trans hT) | exact hQ2 hB _ (hT0.trans hT)
  · rw [hz]
    refine g_tableIn (off := 134) (tgt := 146) d_T_takeOrder_12 (by decide) (by decide) (by decide) (by decide) ?_
    refine g_iconst_i d_T_takeOrder_146 ?_
    refine g_ireturn_0 rfl d_T_takeOrder_147 ?_
    have he : rdOrder t = (false, tLt t (sg t)) := by unfold rdOrder; rw [if_neg (by omega), if_neg (by simp only [numLB, decide_eq_true_eq]; omega)]
    rw [he] at hQ2
    exact hQ2 rfl _ ⟨⟨hn, y0, y1, ok.lt hsr⟩, hfr⟩
  · rw [hz]
    refine g_tableIn (off := 119) (tgt := 131) d_T_takeOrder_12 (by decide) (by decide) (by decide) (by decide) ?_
    refine g_aload_n (n := 0) (i := 0) rfl rfl d_T_takeOrder_131 ?_
    refine g_dup rfl d_T_takeOrder_132 ?_
    refine g_getfield 3 2 f_T_19 (by assumption) (by rfl) d_T_takeOrder_133 ?_
    refine g_iconst_i d_T_takeOrder_136 ?_
    refine g_iadd_i d_T_takeOrder_137 ?_
    refine g_putA 3 2 58 (by omega) y0 f_T_19 (Or.inl rfl) (by first | rfl | exact (iI_char (by omega)).1) (by first | rfl | exact (iI_char (by omega)).2) (Nat.le_of_ble_eq_true rfl) d_T_takeOrder_138 (fun w hs hn9 => ?_)
    have y0 : w 58 = tE E (tSk (tLt t (sg t))) := hs
    have y1 : w 59 = chE (tSk (tLt t (sg t))) := (hn9 59 (by omega)).trans y1
    have hfr := fun j (h1 : j ≠ 58) (h2 : j ≠ 59) => (hn9 j h1).trans (hfr j h1 h2)
    have kt : g_cell E w im (gad E 58) _ := g_mut 58 (by omega) y0
    have ks : g_cell E w im (gad E 59) _ := g_mut 59 (by omega) y1
    have ok : okT (tSk (tLt t (sg t))) := tSk_ok (ok.lt hsr) (show sg t ≠ 0 by rw [hz]; decide)
    have hT0 : TN E _ (tSk (tLt t (sg t))) w := ⟨⟨hn, y0, y1, ok⟩, hfr⟩
    refine g_aload_n (n := 0) (i := 0) rfl rfl d_T_takeOrder_141 ?_
    refine g_callV0 rfl rfl e_T_takeNumber l_T_53 iv_T_takeNumber 3 (by decide) rfl (by assumption) (by decide) (Nat.zero_le _) (Nat.zero_le _) (Nat.le_of_ble_eq_true rfl) d_T_takeOrder_142 (c_T_takeNumber hT0.1 (fun hB w hT => ?_) (fun hB w hT => ?_))
    · refine g_ret ?_
      refine g_ireturn_1 rfl d_T_takeOrder_145 ?_
      have he : rdOrder t = rdNum (tSk (tLt t (sg t))) := by unfold rdOrder; rw [if_neg (by rw [hz]; decide), if_pos (by rw [hz]; decide)]
      rw [he] at hQ1 hQ2
      first | exact hQ1 hB _ (hT0.trans hT) | exact hQ2 hB _ (hT0.trans hT)
    · refine g_ret ?_
      refine g_ireturn_0 rfl d_T_takeOrder_145 ?_
      have he : rdOrder t = rdNum (tSk (tLt t (sg t))) := by unfold rdOrder; rw [if_neg (by rw [hz]; decide), if_pos (by rw [hz]; decide)]
      rw [he] at hQ1 hQ2
      first | exact hQ1 hB _ (hT0.trans hT) | exact hQ2 hB _ (hT0.trans hT)
  · refine g_tableOut (tgt := 146) d_T_takeOrder_12 (by rw [iI_toInt (by omega)]; exact hsw12) (by decide) ?_
    refine g_iconst_i d_T_takeOrder_146 ?_
    refine g_ireturn_0 rfl d_T_takeOrder_147 ?_
    have he : rdOrder t = (false, tLt t (sg t)) := by unfold rdOrder; rw [if_neg (by omega), if_neg (by simp only [numLB, decide_eq_true_eq]; omega)]
    rw [he] at hQ2
    exact hQ2 rfl _ ⟨⟨hn, y0, y1, ok.lt hsr⟩, hfr⟩

theorem c_T_findError {E : gE} {w : gW} {im : gIm} {Q : gQ} {t : Tx} (ht : TW E w t) (hQ : ∀ w', TN E w (rdAll 60 (tOr (tP t 0) 0)).2 w' → Q (.inl (some (.int (iI (rdAll 60 (tOr (tP t 0) 0)).1)))) w' im) : GM E 4 y_T_findError m_T_findError 0 0 [.ref (gad E 58)] w im Q := by
  have ht9 := ht
  obtain ⟨hn, y0, y1, ok⟩ := ht9
  have hsr := sg_rng ok
  have ok9 := ok
  obtain ⟨a1, a2, a3, a4, a5, a6, a7⟩ := ok9
  have kt : g_cell E w im (gad E 58) _ := g_mut 58 (by omega) y0
  have ks : g_cell E w im (gad E 59) _ := g_mut 59 (by omega) y1
  have hfr0 : ∀ j, j ≠ 58 → j ≠ 59 → w j = w j := fun _ _ _ => rfl
  have loop : ∀ (n9 : Nat) (k9 : Int) (t1 : Tx) (w1 : gW), k9 + n9 = 60 → 0 ≤ k9 → TN E w t1 w1 → to' t1 = k9 → rdAll n9 t1 = rdAll 60 (tOr (tP t 0) 0) → G E 4 m_T_findError 11 [(0, .ref (gad E 58)), (1, .int (iI k9))] [] w1 im 0 0 Q := by
    intro n9
    induction n9 with
    | zero =>
      intro k9 t1 w h9 hk9 hT hb he
      rw [rdAll] at he
      rw [← he] at hQ
      have kt : g_cell E w im (gad E 58) _ := g_mut 58 (by omega) hT.1.2.1
      refine g_iload_n (n := 1) (i := 1) rfl rfl d_T_findError_11 ?_
      refine g_bipush_i (by decide) d_T_findError_12 ?_
      refine g_icmp_ge_i (tgt := 74) (by omega) (by decide) d_T_findError_14 (by decide) (fun h14 => ?_) (fun h => by exfalso; omega)
      refine g_aload_n (n := 0) (i := 0) rfl rfl d_T_findError_74 ?_
      refine g_getfield 3 2 f_T_19 (by assumption) (by rfl) d_T_findError_75 ?_
      refine g_ireturn_i rfl d_T_findError_78 ?_
      exact hQ _ hT
    | succ n9 ih =>
      intro k9 t1 w h9 hk9 hT hb he
      rw [rdAll] at he
      have hbo := rdOrder_or (t := t1)
      have kt : g_cell E w im (gad E 58) _ := g_mut 58 (by omega) hT.1.2.1
      refine g_iload_n (n := 1) (i := 1) rfl rfl d_T_findError_11 ?_
      refine g_bipush_i (by decide) d_T_findError_12 ?_
      refine g_icmp_ge_i (tgt := 74) (by omega) (by decide) d_T_findError_14 (by decide) (fun h => by exfalso; omega) (fun h14 => ?_)
      refine g_aload_n (n := 0) (i := 0) rfl rfl d_T_findError_17 ?_
      refine g_callV0 rfl rfl e_T_takeOrder l_T_38 iv_T_takeOrder 3 (by decide) rfl (by assumption) (by decide) (Nat.zero_le _) (Nat.zero_le _) (Nat.le_of_ble_eq_true rfl) d_T_findError_18 (c_T_takeOrder hT.1 (fun hB w hT2 => ?_) (fun hB w hT2 => ?_))
      · refine g_ret ?_
        have hT := hT.trans hT2
        have hfr := hT.2
        obtain ⟨⟨_, y0, y1, ok⟩, hf2⟩ := id hT
        have kt : g_cell E w im (gad E 58) _ := g_mut 58 (by omega) y0
        rw [if_pos hB] at he
        refine g_if_ne_i (tgt := 29) (by decide) d_T_findError_21 (by decide) (fun h21 => ?_) (fun h => absurd h (by decide))
        refine g_aload_n (n := 0) (i := 0) rfl rfl d_T_findError_29 ?_
        refine g_dup rfl d_T_findError_30 ?_
        refine g_getfield 3 3 f_T_22 (by assumption) (by rfl) d_T_findError_31 ?_
        refine g_iconst_i d_T_findError_34 ?_
        refine g_iadd_i d_T_findError_35 ?_
        refine g_putA 3 3 58 (by omega) y0 f_T_22 (Or.inl rfl) (by first | rfl | exact (iI_char (by omega)).1) (by first | rfl | exact (iI_char (by omega)).2) (Nat.le_of_ble_eq_true rfl) d_T_findError_36 (fun w hs hn9 => ?_)
        have y0 : w 58 = tE E (tOr (rdOrder t1).2 (to' (rdOrder t1).2 + 1)) := hs
        have y1 : w 59 = chE (tOr (rdOrder t1).2 (to' (rdOrder t1).2 + 1)) := (hn9 59 (by omega)).trans y1
        have hfr := fun j (h1 : j ≠ 58) (h2 : j ≠ 59) => (hn9 j h1).trans (hfr j h1 h2)
        have kt : g_cell E w im (gad E 58) _ := g_mut 58 (by omega) y0
        have ks : g_cell E w im (gad E 59) _ := g_mut 59 (by omega) y1
        have ok : okT (tOr (rdOrder t1).2 (to' (rdOrder t1).2 + 1)) := ok.or (by omega)
        have hT3 : TN E _ (tOr (rdOrder t1).2 (to' (rdOrder t1).2 + 1)) w := ⟨⟨hT.1.1, y0, y1, ok⟩, hfr⟩
        refine g_aload_n (n := 0) (i := 0) rfl rfl d_T_findError_39 ?_
        refine g_bipush_i (by decide) d_T_findError_40 ?_
        refine g_callV1 rfl rfl e_T_skip l_T_42 iv_T_skip 3 (by decide) rfl (by assumption) (by decide) (Nat.zero_le _) (Nat.zero_le _) (Nat.le_of_ble_eq_true rfl) d_T_findError_42 (c_T_skip hT3.1 (by omega) (fun hS w hT4 => ?_) (fun hS w hT4 => ?_))
        · refine g_ret ?_
          have hT4 := hT3.trans hT4
          rw [if_pos hS] at he
          refine g_if_ne_i (tgt := 68) (by decide) d_T_findError_45 (by decide) (fun h45 => ?_) (fun h => absurd h (by decide))
          refine g_iinc_i (i := 1) rfl (by decide) rfl d_T_findError_68 ?_
          refine g_goto (tgt := 11) (by decide) d_T_findError_71 ?_
          exact g_cut (lv' := [(0, .ref (gad E 58)), (1, .int (iI (k9 + 1)))]) ⟨rfl, rfl, trivial⟩ (ih (k9 + 1) _ _ (by omega) (by omega) hT4 (show to' (rdOrder t1).2 + 1 = k9 + 1 by omega) he)
        · refine g_ret ?_
          have hT4 := hT3.trans hT4
          rw [if_neg hS] at he
          rw [← he] at hQ
          have kt : g_cell E w im (gad E 58) _ := g_mut 58 (by omega) hT4.1.2.1
          have hp1 : 0 ≤ tp (rdOrder t1).2 ∧ tp (rdOrder t1).2 ≤ 60 := ok.2.1
          have hl1 : 0 ≤ tl (rdOrder t1).2 ∧ tl (rdOrder t1).2 ≤ 60 := ok.1
          refine g_if_ne_i (tgt := 68) (by decide) d_T_findError_45 (by decide) (fun h => absurd h (by decide)) (fun h45 => ?_)
          refine g_aload_n (n := 0) (i := 0) rfl rfl d_T_findError_48 ?_
          refine g_getfield 3 2 f_T_19 (by assumption) (by rfl) d_T_findError_49 ?_
          refine g_aload_n (n := 0) (i := 0) rfl rfl d_T_findError_52 ?_
          refine g_getfield 3 1 f_T_15 (by assumption) (by rfl) d_T_findError_53 ?_
          change G E 4 m_T_findError 56 _ [.int (iI (tl (rdOrder t1).2)), .int (iI (tp (rdOrder t1).2))] _ im 0 0 Q
          refine g_icmp_ge_i (tgt := 66) (by omega) (by omega) d_T_findError_56 (by decide) (fun h56 => ?_) (fun h56 => ?_)
          · refine g_iconst_i d_T_findError_66 ?_
            refine g_ireturn_i rfl d_T_findError_67 ?_
            first | (rw [if_pos (show tp (rdOrder t1).2 < tl (rdOrder t1).2 by omega)] at hQ; exact hQ _ hT4) | (rw [if_neg (show ¬ tp (rdOrder t1).2 < tl (rdOrder t1).2 by omega)] at hQ; exact hQ _ hT4)
          · refine g_aload_n (n := 0) (i := 0) rfl rfl d_T_findError_59 ?_
            refine g_getfield 3 2 f_T_19 (by assumption) (by rfl) d_T_findError_60 ?_
            refine g_goto (tgt := 67) (by decide) d_T_findError_63 ?_
            refine g_ireturn_i rfl d_T_findError_67 ?_
            first | (rw [if_pos (show tp (rdOrder t1).2 < tl (rdOrder t1).2 by omega)] at hQ; exact hQ _ hT4) | (rw [if_neg (show ¬ tp (rdOrder t1).2 < tl (rdOrder t1).2 by omega)] at hQ; exact hQ _ hT4)
      · refine g_ret ?_
        have hT := hT.trans hT2
        have kt : g_cell E w im (gad E 58) _ := g_mut 58 (by omega) hT.1.2.1
        rw [if_neg (by rw [hB]; exact Bool.false_ne_true)] at he
        rw [← he] at hQ
        refine g_if_ne_i (tgt := 29) (by decide) d_T_findError_21 (by decide) (fun h => absurd h (by decide)) (fun h21 => ?_)
        refine g_aload_n (n := 0) (i := 0) rfl rfl d_T_findError_24 ?_
        refine g_getfield 3 2 f_T_19 (by assumption) (by rfl) d_T_findError_25 ?_
        refine g_ireturn_i rfl d_T_findError_28 ?_
        exact hQ _ hT
  refine g_enter (by decide) rfl rfl (fun h => by first | rfl | cases h) (Nat.le_of_ble_eq_true rfl) rfl ?_
  refine g_aload_n (n := 0) (i := 0) rfl rfl d_T_findError_0 ?_
  refine g_callV0 rfl rfl e_T_rewind l_T_35 iv_T_rewind 3 (by decide) rfl (by assumption) (by decide) (Nat.zero_le _) (Nat.zero_le _) (Nat.le_of_ble_eq_true rfl) d_T_findError_1 (c_T_rewind ht (fun w hT => ?_))
  refine g_retv ?_
  have hfr := hT.2
  obtain ⟨⟨_, y0, y1, ok⟩, hf2⟩ := id hT
  have kt : g_cell E w im (gad E 58) _ := g_mut 58 (by omega) y0
  refine g_aload_n (n := 0) (i := 0) rfl rfl d_T_findError_4 ?_
  refine g_iconst_i d_T_findError_5 ?_
  refine g_putA 3 3 58 (by omega) y0 f_T_22 (Or.inl rfl) (by first | rfl | exact (iI_char (by omega)).1) (by first | rfl | exact (iI_char (by omega)).2) (Nat.le_of_ble_eq_true rfl) d_T_findError_6 (fun w hs hn9 => ?_)
  have y0 : w 58 = tE E (tOr (tP t 0) 0) := hs
  have y1 : w 59 = chE (tOr (tP t 0) 0) := (hn9 59 (by omega)).trans y1
  have hfr := fun j (h1 : j ≠ 58) (h2 : j ≠ 59) => (hn9 j h1).trans (hfr j h1 h2)
  have kt : g_cell E w im (gad E 58) _ := g_mut 58 (by omega) y0
  have ks : g_cell E w im (gad E 59) _ := g_mut 59 (by omega) y1
  have ok : okT (tOr (tP t 0) 0) := ok.or (by omega)
  have hT3 : TN E _ (tOr (tP t 0) 0) w := ⟨⟨hn, y0, y1, ok⟩, hfr⟩
  refine g_iconst_i d_T_findError_9 ?_
  refine g_istore_n (n := 1) (i := 1) rfl (by decide) rfl d_T_findError_10 ?_
  refine g_cut ?_ (loop 60 0 _ _ (by omega) (by omega) hT3 rfl rfl)
  exact ⟨rfl, rfl, trivial⟩

def tPut (t : Tx) (s : Int) : Tx := if s ≠ 0 ∧ tl t < 60 then tLn (tSg t (uI (ts t) (tl t) s)) (tl t + 1) else t

theorem c_T_put {E : gE} {w : gW} {im : gIm} {Q : gQ} {t : Tx} (ht : TW E w t) {x : Int} (rx : 0 ≤ x ∧ x ≤ 255) (hQ : ∀ w', TN E w (tPut t x) w' → Q (.inl none) w' im) : GM E 0 y_T_put m_T_put 0 0 [.ref (gad E 58), .int (iI x)] w im Q := by
  have ht9 := ht
  obtain ⟨hn, y0, y1, ok⟩ := ht9
  have hsr := sg_rng ok
  have ok9 := ok
  obtain ⟨a1, a2, a3, a4, a5, a6, a7⟩ := ok9
  have kt : g_cell E w im (gad E 58) _ := g_mut 58 (by omega) y0
  have ks : g_cell E w im (gad E 59) _ := g_mut 59 (by omega) y1
  have hfr : ∀ j, j ≠ 58 → j ≠ 59 → w j = w j := fun _ _ _ => rfl
  refine g_enter (by decide) rfl rfl (fun h => by first | rfl | cases h) (Nat.le_of_ble_eq_true rfl) rfl ?_
  refine g_iload_n (n := 1) (i := 1) rfl rfl d_T_put_0 ?_
  refine g_if_eq_i (tgt := 44) (by omega) d_T_put_1 (by decide) (fun h1 => ?_) (fun h1 => ?_)
  · refine g_return rfl d_T_put_44 ?_
    first | (have he : tPut t x = tLn (tSg t (uI (ts t) (tl t) x)) (tl t + 1) := (by unfold tPut; rw [if_pos ⟨by omega, by omega⟩]); rw [he] at hQ; refine hQ _ ⟨⟨hn, y0, y1, ⟨(show 0 ≤ tl t + 1 ∧ tl t + 1 ≤ 60 by omega), a2, a3, a4, a5, a6, fun j hj => ?_⟩⟩, hfr⟩; show 0 ≤ uI (ts t) (tl t) x j ∧ uI (ts t) (tl t) x j ≤ 255; simp only [uI]; split <;> first | omega | exact a7 j hj) | (have he : tPut t x = t := (by unfold tPut; rw [if_neg (fun h => by omega)]); rw [he] at hQ; exact hQ _ ⟨⟨hn, y0, y1, ok⟩, hfr⟩)
  · refine g_aload_n (n := 0) (i := 0) rfl rfl d_T_put_4 ?_
    refine g_getfield 3 1 f_T_15 (by assumption) (by rfl) d_T_put_5 ?_
    refine g_if_lt_i (tgt := 44) (by omega) d_T_put_8 (by decide) (fun h => by exfalso; omega) (fun h8 => ?_)
    refine g_aload_n (n := 0) (i := 0) rfl rfl d_T_put_11 ?_
    refine g_getfield 3 1 f_T_15 (by assumption) (by rfl) d_T_put_12 ?_
    refine g_aload_n (n := 0) (i := 0) rfl rfl d_T_put_15 ?_
    refine g_getfield 3 0 f_T_9 (by assumption) (by rfl) d_T_put_16 ?_
    refine g_alen_i (by assumption) (by decide) d_T_put_19 ?_
    refine g_icmp_ge_i (tgt := 44) (by omega) (by omega) d_T_put_20 (by decide) (fun h20 => ?_) (fun h20 => ?_)
    · refine g_return rfl d_T_put_44 ?_
      first | (have he : tPut t x = tLn (tSg t (uI (ts t) (tl t) x)) (tl t + 1) := (by unfold tPut; rw [if_pos ⟨by omega, by omega⟩]); rw [he] at hQ; refine hQ _ ⟨⟨hn, y0, y1, ⟨(show 0 ≤ tl t + 1 ∧ tl t + 1 ≤ 60 by omega), a2, a3, a4, a5, a6, fun j hj => ?_⟩⟩, hfr⟩; show 0 ≤ uI (ts t) (tl t) x j ∧ uI (ts t) (tl t) x j ≤ 255; simp only [uI]; split <;> first | omega | exact a7 j hj) | (have he : tPut t x = t := (by unfold tPut; rw [if_neg (fun h => by omega)]); rw [he] at hQ; exact hQ _ ⟨⟨hn, y0, y1, ok⟩, hfr⟩)
    · refine g_aload_n (n := 0) (i := 0) rfl rfl d_T_put_23 ?_
      refine g_getfield 3 0 f_T_9 (by assumption) (by rfl) d_T_put_24 ?_
      refine g_aload_n (n := 0) (i := 0) rfl rfl d_T_put_27 ?_
      refine g_getfield 3 1 f_T_15 (by assumption) (by rfl) d_T_put_28 ?_
      refine g_iload_n (n := 1) (i := 1) rfl rfl d_T_put_31 ?_
      refine g_i2c_i (by omega) d_T_put_32 ?_
      refine g_castoreA 59 (by omega) y1 (by omega) (by omega) (by omega) (by rfl) d_T_put_33 (fun w hs hn9 => ?_)
      have y0 := (hn9 58 (by omega)).trans y0
      have y1 : w 59 = chE (tSg t (uI (ts t) (tl t) x)) := hs
      have hfr := fun j (h1 : j ≠ 58) (h2 : j ≠ 59) => (hn9 j h2).trans (hfr j h1 h2)
      have kt : g_cell E w im (gad E 58) _ := g_mut 58 (by omega) y0
      have ks : g_cell E w im (gad E 59) _ := g_mut 59 (by omega) y1
      refine g_aload_n (n := 0) (i := 0) rfl rfl d_T_put_34 ?_
      refine g_dup rfl d_T_put_35 ?_
      refine g_getfield 3 1 f_T_15 (by assumption) (by rfl) d_T_put_36 ?_
      refine g_iconst_i d_T_put_39 ?_
      refine g_iadd_i d_T_put_40 ?_
      refine g_putA 3 1 58 (by omega) y0 f_T_15 (Or.inl rfl) (by first | rfl | exact (iI_char (by omega)).1) (by first | rfl | exact (iI_char (by omega)).2) (Nat.le_of_ble_eq_true rfl) d_T_put_41 (fun w hs hn9 => ?_)
      have y0 : w 58 = tE E (tLn (tSg t (uI (ts t) (tl t) x)) (tl t + 1)) := hs
      have y1 : w 59 = chE (tLn (tSg t (uI (ts t) (tl t) x)) (tl t + 1)) := (hn9 59 (by omega)).trans y1
      have hfr := fun j (h1 : j ≠ 58) (h2 : j ≠ 59) => (hn9 j h1).trans (hfr j h1 h2)
      have kt : g_cell E w im (gad E 58) _ := g_mut 58 (by omega) y0
      have ks : g_cell E w im (gad E 59) _ := g_mut 59 (by omega) y1
      refine g_return rfl d_T_put_44 ?_
      first | (have he : tPut t x = tLn (tSg t (uI (ts t) (tl t) x)) (tl t + 1) := (by unfold tPut; rw [if_pos ⟨by omega, by omega⟩]); rw [he] at hQ; refine hQ _ ⟨⟨hn, y0, y1, ⟨(show 0 ≤ tl t + 1 ∧ tl t + 1 ≤ 60 by omega), a2, a3, a4, a5, a6, fun j hj => ?_⟩⟩, hfr⟩; show 0 ≤ uI (ts t) (tl t) x j ∧ uI (ts t) (tl t) x j ≤ 255; simp only [uI]; split <;> first | omega | exact a7 j hj) | (have he : tPut t x = t := (by unfold tPut; rw [if_neg (fun h => by omega)]); rw [he] at hQ; exact hQ _ ⟨⟨hn, y0, y1, ok⟩, hfr⟩)

