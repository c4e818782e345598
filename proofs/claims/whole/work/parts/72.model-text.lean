/-! ===== the reference: it goes through a text ===== -/
theorem rdOrder_end {t : Tx} (h : tl t ≤ tp t) : rdOrder t = (false, tLt t (sg t)) := by
  have e : sg t = 0 := if_neg (by omega)
  unfold rdOrder
  rw [e, if_neg (by decide), if_neg (by decide)]
theorem rdOrder_lt {t : Tx} (h : (rdOrder t).1 = true) : tp t < tp (rdOrder t).2 ∧ tp (rdOrder t).2 ≤ tl t := by
  have hlt : tp t < tl t := by
    by_cases h9 : tp t < tl t
    · exact h9
    · rw [rdOrder_end (by omega)] at h; cases h
  unfold rdOrder at h ⊢
  by_cases e : sg t = 115
  · rw [if_pos e] at h ⊢
    unfold rdSale at h ⊢
    by_cases d1 : dgB (tTm (tNm (tSk (tLt t (sg t))) 0) 1) = true
    · rw [if_pos d1] at h ⊢
      have l1 : tp t + 1 < tl t := dgB_lt d1
      by_cases s : sg (tDg (tTm (tNm (tSk (tLt t (sg t))) 0) 1)) = 42
      · rw [if_pos s] at h ⊢
        by_cases d2 : dgB (tNm (tSk (tDg (tTm (tNm (tSk (tLt t (sg t))) 0) 1))) 0) = true
        · rw [if_pos d2] at h ⊢
          have l2 : tp t + 1 + 1 + 1 < tl t := dgB_lt d2
          exact ⟨show tp t < tp t + 1 + 1 + 1 + 1 by omega, show tp t + 1 + 1 + 1 + 1 ≤ tl t by omega⟩
        · rw [if_neg d2] at h; cases h
      · rw [if_neg s] at h ⊢
        exact ⟨show tp t < tp t + 1 + 1 by omega, show tp t + 1 + 1 ≤ tl t by omega⟩
    · rw [if_neg d1] at h; cases h
  · rw [if_neg e] at h ⊢
    by_cases nl : numLB (sg t) = true
    · rw [if_pos nl] at h ⊢
      unfold rdNum at h ⊢
      by_cases d : dgB (tNm (tSk (tLt t (sg t))) 0) = true
      · rw [if_pos d] at h ⊢
        have l1 : tp t + 1 < tl t := dgB_lt d
        have := rdMore_tp (n := 3) (t := tDg (tNm (tSk (tLt t (sg t))) 0)) (show tp t + 1 + 1 ≤ tl t by omega)
        have e1 : tp (tDg (tNm (tSk (tLt t (sg t))) 0)) = tp t + 1 + 1 := rfl
        have e2 : tl (tDg (tNm (tSk (tLt t (sg t))) 0)) = tl t := rfl
        exact ⟨show tp t < tp (rdMore 3 (tDg (tNm (tSk (tLt t (sg t))) 0))) by omega, show tp (rdMore 3 (tDg (tNm (tSk (tLt t (sg t))) 0))) ≤ tl t by omega⟩
      · rw [if_neg d] at h; cases h
    · rw [if_neg nl] at h; cases h

theorem rdOrder_pr {t : Tx} (h : 0 ≤ tp t ∧ tp t ≤ tl t) : 0 ≤ tp (rdOrder t).2 ∧ tp (rdOrder t).2 ≤ tl t := by
  have hlt : tl t ≤ tp t ∨ tp t < tl t := by omega
  rcases hlt with hlt | hlt
  · rw [rdOrder_end hlt]; exact h
  unfold rdOrder
  by_cases e : sg t = 115
  · rw [if_pos e]
    unfold rdSale
    by_cases d1 : dgB (tTm (tNm (tSk (tLt t (sg t))) 0) 1) = true
    · rw [if_pos d1]
      have l1 : tp t + 1 < tl t := dgB_lt d1
      by_cases s : sg (tDg (tTm (tNm (tSk (tLt t (sg t))) 0) 1)) = 42
      · rw [if_pos s]
        have l3 : tp t + 1 + 1 < tl t := by
          by_cases h9 : tp t + 1 + 1 < tl t
          · exact h9
          · exact absurd s (by rw [show sg (tDg (tTm (tNm (tSk (tLt t (sg t))) 0) 1)) = 0 from if_neg h9]; decide)
        by_cases d2 : dgB (tNm (tSk (tDg (tTm (tNm (tSk (tLt t (sg t))) 0) 1))) 0) = true
        · rw [if_pos d2]
          have l2 : tp t + 1 + 1 + 1 < tl t := dgB_lt d2
          exact ⟨show 0 ≤ tp t + 1 + 1 + 1 + 1 by omega, show tp t + 1 + 1 + 1 + 1 ≤ tl t by omega⟩
        · rw [if_neg d2]
          exact ⟨show 0 ≤ tp t + 1 + 1 + 1 by omega, show tp t + 1 + 1 + 1 ≤ tl t by omega⟩
      · rw [if_neg s]
        exact ⟨show 0 ≤ tp t + 1 + 1 by omega, show tp t + 1 + 1 ≤ tl t by omega⟩
    · rw [if_neg d1]
      exact ⟨show 0 ≤ tp t + 1 by omega, show tp t + 1 ≤ tl t by omega⟩
  · rw [if_neg e]
    by_cases nl : numLB (sg t) = true
    · rw [if_pos nl]
      unfold rdNum
      by_cases d : dgB (tNm (tSk (tLt t (sg t))) 0) = true
      · rw [if_pos d]
        have l1 : tp t + 1 < tl t := dgB_lt d
        have := rdMore_tp (n := 3) (t := tDg (tNm (tSk (tLt t (sg t))) 0)) (show tp t + 1 + 1 ≤ tl t by omega)
        have e1 : tp (tDg (tNm (tSk (tLt t (sg t))) 0)) = tp t + 1 + 1 := rfl
        have e2 : tl (tDg (tNm (tSk (tLt t (sg t))) 0)) = tl t := rfl
        exact ⟨show 0 ≤ tp (rdMore 3 (tDg (tNm (tSk (tLt t (sg t))) 0))) by omega, show tp (rdMore 3 (tDg (tNm (tSk (tLt t (sg t))) 0))) ≤ tl t by omega⟩
      · rw [if_neg d]
        exact ⟨show 0 ≤ tp t + 1 by omega, show tp t + 1 ≤ tl t by omega⟩
    · rw [if_neg nl]; exact h

theorem c_M_orders0 {E : gE} {w : gW} {im : gIm} {Q : gQ} {f : Nat → Int} {m : Int → Int} (hm : MR E w f m) {t : Tx} (y7 : w 67 = chE t) (y12 : f 12 = tl t) (yp0 : tp t = 0) (yo : to' t = 0) (yl : 0 ≤ tl t ∧ tl t ≤ 60) (ys : ∀ j, 0 ≤ j ∧ j < 60 → 0 ≤ ts t j ∧ ts t j ≤ 255) (hQ1 : (rdAll 60 t).1 = -1 → ∀ w' f', MR E w' f' m → f' 14 = 0 → (∀ i, i < 13 → f' i = f i) → (∀ j, j ≠ 62 → w' j = w j) → Q (oV (to' (rdAll 60 t).2)) w' im) (hQ2 : (rdAll 60 t).1 ≠ -1 → ∀ w' f' v, MR E w' f' m → f' 14 = 1 → f' 13 = (rdAll 60 t).1 → (∀ i, i < 13 → f' i = f i) → (∀ j, j ≠ 62 → w' j = w j) → Q (oV v) w' im) : GM E 5 y_M_orders m_M_orders 0 0 [.ref (gad E 62), .int (iI 0)] w im Q := by
  have loop : ∀ (n9 : Nat) (k9 : Int) (t1 : Tx) (w1 : gW) (f1 : Nat → Int), MT E w1 f1 m t1 → f1 14 = 0 → to' t1 = k9 → tl t1 - tp t1 ≤ n9 → rdAll n9 t1 = rdAll 60 t → (∀ i, i < 13 → f1 i = f i) → (∀ j, j ≠ 62 → w1 j = w j) → G E 5 m_M_orders 14 [(0, .ref (gad E 62)), (1, .int (iI 0)), (2, .int (iI k9)), (3, .int (iI 1))] [] w1 im 0 0 Q := by
    intro n9
    induction n9 with
    | zero =>
      intro k9 t1 w f1 ht1 p14 hk hl he hf hw
      have hn := ht1.1.1
      have k2 : g_cell E w im (gad E 62) _ := g_mut 62 (by omega) ht1.1.2.1
      have ht1p := ht1.2.2.2.2.2.1
      refine g_iload_n (n := 3) (i := 3) rfl rfl d_M_orders_14 ?_
      refine g_if_eq_i (tgt := 79) (by decide) d_M_orders_15 (by decide) (fun h => absurd h (by decide)) (fun h15 => ?_)
      refine g_aload_n (n := 0) (i := 0) rfl rfl d_M_orders_18 ?_
      refine g_callV0 rfl rfl e_M_readsOrder l_M_239 iv_M_readsOrder 9 (by decide) rfl (by assumption) (by decide) (Nat.zero_le _) (Nat.zero_le _) (Nat.le_of_ble_eq_true rfl) d_M_orders_19 (c_M_readsOrder ht1 p14 (fun hR w f2 hm2 q14 q13 q15 q16 q17 qf hw2 => ?_) (fun hR w f2 hm2 q14 q13 qf hw2 => ?_))
      · refine g_retv ?_
        have hro := rdOrder_or (t := t1)
        have hrl := rdOrder_lt hR
        have ht2 : MT E w f2 m (rdOrder t1).2 := ht1.mk hm2 hw2 (qf 12 (by omega)) q13 hro.2.1 hro.2.2 (by rw [hro.2.1]; omega)
        have hb2 : (0 ≤ tl (rdOrder t1).2 ∧ tl (rdOrder t1).2 ≤ 60) ∧ (0 ≤ tp (rdOrder t1).2 ∧ tp (rdOrder t1).2 ≤ tl (rdOrder t1).2) := ⟨ht2.2.2.2.2.1, ht2.2.2.2.2.2.1⟩
        have hn := hm2.1
        have k2 : g_cell E w im (gad E 62) _ := g_mut 62 (by omega) hm2.2.1
        refine g_aload_n (n := 0) (i := 0) rfl rfl d_M_orders_22 ?_
        refine g_getfield 9 14 f_M_202 k2 (by rfl) d_M_orders_23 ?_
        rw [q14]
        refine g_if_ne_i (tgt := 46) (by decide) d_M_orders_26 (by decide) (fun h => absurd h (by decide)) (fun h26 => ?_)
        refine g_iload_n (n := 1) (i := 1) rfl rfl d_M_orders_29 ?_
        refine g_if_eq_i (tgt := 46) (by decide) d_M_orders_30 (by decide) (fun h30 => ?_) (fun h => absurd h (by decide))
        refine g_iinc_i (i := 2) rfl (by decide) rfl d_M_orders_46 ?_
        refine g_aload_n (n := 0) (i := 0) rfl rfl d_M_orders_49 ?_
        refine g_bipush_i (by decide) d_M_orders_50 ?_
        refine g_bipush_i (by decide) d_M_orders_52 ?_
        refine g_callV2 rfl rfl e_M_isAt l_M_212 iv_M_isAt 9 (by decide) rfl (by assumption) (by decide) (Nat.zero_le _) (Nat.zero_le _) (Nat.le_of_ble_eq_true rfl) d_M_orders_54 (c_M_isAt ht2 (by omega) (by omega) (by omega) (fun hI4 hI => ?_) (fun hI => ?_))
        · refine g_ret ?_
          refine g_istore_n (n := 3) (i := 3) rfl (by decide) rfl d_M_orders_57 ?_
          refine g_aload_n (n := 0) (i := 0) rfl rfl d_M_orders_58 ?_
          refine g_dup rfl d_M_orders_59 ?_
          refine g_getfield 9 13 f_M_206 k2 (by rfl) d_M_orders_60 ?_
          rw [q13]
          refine g_iload_n (n := 3) (i := 3) rfl rfl d_M_orders_63 ?_
          refine g_if_eq_i (tgt := 71) (by decide) d_M_orders_64 (by decide) (fun h => absurd h (by decide)) (fun h64 => ?_)
          refine g_iconst_i d_M_orders_67 ?_
          refine g_goto (tgt := 72) (by decide) d_M_orders_68 ?_
          refine g_iadd_i d_M_orders_72 ?_
          refine g_putA 9 13 62 (by omega) hm2.2.1 f_M_206 (Or.inl rfl) (by rfl) (by rfl) (Nat.le_of_ble_eq_true rfl) d_M_orders_73 (fun w h3 h3n => ?_)
          have k2 : g_cell E w im (gad E 62) _ := g_mut 62 (by omega) h3
          have hm3 : MR E w (fU f2 13 (((tp (rdOrder t1).2) + 1))) m := ⟨hn, h3, (h3n 63 (by omega)).trans hm2.2.2⟩
          refine g_goto (tgt := 14) (by decide) d_M_orders_76 ?_
          exfalso
          omega
        · refine g_ret ?_
          refine g_istore_n (n := 3) (i := 3) rfl (by decide) rfl d_M_orders_57 ?_
          refine g_aload_n (n := 0) (i := 0) rfl rfl d_M_orders_58 ?_
          refine g_dup rfl d_M_orders_59 ?_
          refine g_getfield 9 13 f_M_206 k2 (by rfl) d_M_orders_60 ?_
          rw [q13]
          refine g_iload_n (n := 3) (i := 3) rfl rfl d_M_orders_63 ?_
          refine g_if_eq_i (tgt := 71) (by decide) d_M_orders_64 (by decide) (fun h64 => ?_) (fun h => absurd h (by decide))
          refine g_iconst_i d_M_orders_71 ?_
          refine g_iadd_i d_M_orders_72 ?_
          refine g_putA 9 13 62 (by omega) hm2.2.1 f_M_206 (Or.inl rfl) (by rfl) (by rfl) (Nat.le_of_ble_eq_true rfl) d_M_orders_73 (fun w h3 h3n => ?_)
          have k2 : g_cell E w im (gad E 62) _ := g_mut 62 (by omega) h3
          have hm3 : MR E w (fU f2 13 (((tp (rdOrder t1).2) + 0))) m := ⟨hn, h3, (h3n 63 (by omega)).trans hm2.2.2⟩
          refine g_goto (tgt := 14) (by decide) d_M_orders_76 ?_
          exfalso
          omega
      · refine g_retv ?_
        have hn := hm2.1
        have k2 : g_cell E w im (gad E 62) _ := g_mut 62 (by omega) hm2.2.1
        have hpo : tp (rdOrder t1).2 = f2 13 := q13.symm
        have ht2' : MT E w f2 m (tP t1 (f2 13)) := ht1.mk hm2 hw2 (qf 12 (by omega)) rfl rfl rfl (by rw [q13]; exact rdOrder_pr ht1.2.2.2.2.2.1)
        refine g_aload_n (n := 0) (i := 0) rfl rfl d_M_orders_22 ?_
        refine g_getfield 9 14 f_M_202 k2 (by rfl) d_M_orders_23 ?_
        rw [q14]
        refine g_if_ne_i (tgt := 46) (by decide) d_M_orders_26 (by decide) (fun h26 => ?_) (fun h => absurd h (by decide))
        refine g_iinc_i (i := 2) rfl (by decide) rfl d_M_orders_46 ?_
        refine g_aload_n (n := 0) (i := 0) rfl rfl d_M_orders_49 ?_
        refine g_bipush_i (by decide) d_M_orders_50 ?_
        refine g_bipush_i (by decide) d_M_orders_52 ?_
        refine g_callV2 rfl rfl e_M_isAt l_M_212 iv_M_isAt 9 (by decide) rfl (by assumption) (by decide) (Nat.zero_le _) (Nat.zero_le _) (Nat.le_of_ble_eq_true rfl) d_M_orders_54 (c_M_isAt (hQ1 := fun h _ => absurd (q14.symm.trans h) (by decide)) ht2' (by omega) (by omega) (by omega) (fun hI => ?_))
        refine g_ret ?_
        refine g_istore_n (n := 3) (i := 3) rfl (by decide) rfl d_M_orders_57 ?_
        refine g_aload_n (n := 0) (i := 0) rfl rfl d_M_orders_58 ?_
        refine g_dup rfl d_M_orders_59 ?_
        refine g_getfield 9 13 f_M_206 k2 (by rfl) d_M_orders_60 ?_
        rw [q13]
        refine g_iload_n (n := 3) (i := 3) rfl rfl d_M_orders_63 ?_
        refine g_if_eq_i (tgt := 71) (by decide) d_M_orders_64 (by decide) (fun h64 => ?_) (fun h => absurd h (by decide))
        refine g_iconst_i d_M_orders_71 ?_
        refine g_iadd_i d_M_orders_72 ?_
        refine g_putA 9 13 62 (by omega) hm2.2.1 f_M_206 (Or.inl rfl) (by rfl) (by rfl) (Nat.le_of_ble_eq_true rfl) d_M_orders_73 (fun w h3 h3n => ?_)
        have k2 : g_cell E w im (gad E 62) _ := g_mut 62 (by omega) h3
        have hm3 : MR E w (fU f2 13 (((tp (rdOrder t1).2) + 0))) m := ⟨hn, h3, (h3n 63 (by omega)).trans hm2.2.2⟩
        refine g_goto (tgt := 14) (by decide) d_M_orders_76 ?_
        refine g_iload_n (n := 3) (i := 3) rfl rfl d_M_orders_14 ?_
        refine g_if_eq_i (tgt := 79) (by decide) d_M_orders_15 (by decide) (fun h15 => ?_) (fun h => absurd h (by decide))
        refine g_aload_n (n := 0) (i := 0) rfl rfl d_M_orders_79 ?_
        refine g_aload_n (n := 0) (i := 0) rfl rfl d_M_orders_80 ?_
        refine g_getfield 9 14 f_M_202 k2 (by rfl) d_M_orders_81 ?_
        rw [q14]
        refine g_if_ne_i (tgt := 98) (by decide) d_M_orders_84 (by decide) (fun h84 => ?_) (fun h => absurd h (by decide))
        refine g_iconst_i d_M_orders_98 ?_
        refine g_goto (tgt := 103) (by decide) d_M_orders_99 ?_
        refine g_putA 9 14 62 (by omega) h3 f_M_202 (Or.inl rfl) (by rfl) (by rfl) (Nat.le_of_ble_eq_true rfl) d_M_orders_103 (fun w h4 h4n => ?_)
        refine g_iload_n (n := 2) (i := 2) rfl rfl d_M_orders_106 ?_
        refine g_ireturn_i rfl d_M_orders_107 ?_
        have hrd : (rdAll 60 t).1 = tp (rdOrder t1).2 := by rw [← he, rdOrder_end (by omega)]; rfl
        exact hQ2 (by rw [hrd]; have hpr := rdOrder_pr ht1p; omega) _ (fU (fU f2 13 (tp (rdOrder t1).2 + 0)) 14 1) _ ⟨hn, h4, (h4n 63 (by omega)).trans hm3.2.2⟩ rfl (by rw [hrd]; exact Int.add_zero _) (fun i hi => (fU_n (by omega)).trans ((fU_n (by omega)).trans ((qf i hi).trans (hf i hi)))) (fun j hj => (h4n j hj).trans ((h3n j hj).trans ((hw2 j hj).trans (hw j hj))))
    | succ n9 ih =>
      intro k9 t1 w f1 ht1 p14 hk hl he hf hw
      have hn := ht1.1.1
      have k2 : g_cell E w im (gad E 62) _ := g_mut 62 (by omega) ht1.1.2.1
      have ht1p := ht1.2.2.2.2.2.1
      refine g_iload_n (n := 3) (i := 3) rfl rfl d_M_orders_14 ?_
      refine g_if_eq_i (tgt := 79) (by decide) d_M_orders_15 (by decide) (fun h => absurd h (by decide)) (fun h15 => ?_)
      refine g_aload_n (n := 0) (i := 0) rfl rfl d_M_orders_18 ?_
      refine g_callV0 rfl rfl e_M_readsOrder l_M_239 iv_M_readsOrder 9 (by decide) rfl (by assumption) (by decide) (Nat.zero_le _) (Nat.zero_le _) (Nat.le_of_ble_eq_true rfl) d_M_orders_19 (c_M_readsOrder ht1 p14 (fun hR w f2 hm2 q14 q13 q15 q16 q17 qf hw2 => ?_) (fun hR w f2 hm2 q14 q13 qf hw2 => ?_))
      · refine g_retv ?_
        have hro := rdOrder_or (t := t1)
        have hrl := rdOrder_lt hR
        have ht2 : MT E w f2 m (rdOrder t1).2 := ht1.mk hm2 hw2 (qf 12 (by omega)) q13 hro.2.1 hro.2.2 (by rw [hro.2.1]; omega)
        have hb2 : (0 ≤ tl (rdOrder t1).2 ∧ tl (rdOrder t1).2 ≤ 60) ∧ (0 ≤ tp (rdOrder t1).2 ∧ tp (rdOrder t1).2 ≤ tl (rdOrder t1).2) := ⟨ht2.2.2.2.2.1, ht2.2.2.2.2.2.1⟩
        have hn := hm2.1
        have k2 : g_cell E w im (gad E 62) _ := g_mut 62 (by omega) hm2.2.1
        refine g_aload_n (n := 0) (i := 0) rfl rfl d_M_orders_22 ?_
        refine g_getfield 9 14 f_M_202 k2 (by rfl) d_M_orders_23 ?_
        rw [q14]
        refine g_if_ne_i (tgt := 46) (by decide) d_M_orders_26 (by decide) (fun h => absurd h (by decide)) (fun h26 => ?_)
        refine g_iload_n (n := 1) (i := 1) rfl rfl d_M_orders_29 ?_
        refine g_if_eq_i (tgt := 46) (by decide) d_M_orders_30 (by decide) (fun h30 => ?_) (fun h => absurd h (by decide))
        refine g_iinc_i (i := 2) rfl (by decide) rfl d_M_orders_46 ?_
        refine g_aload_n (n := 0) (i := 0) rfl rfl d_M_orders_49 ?_
        refine g_bipush_i (by decide) d_M_orders_50 ?_
        refine g_bipush_i (by decide) d_M_orders_52 ?_
        refine g_callV2 rfl rfl e_M_isAt l_M_212 iv_M_isAt 9 (by decide) rfl (by assumption) (by decide) (Nat.zero_le _) (Nat.zero_le _) (Nat.le_of_ble_eq_true rfl) d_M_orders_54 (c_M_isAt ht2 (by omega) (by omega) (by omega) (fun hI4 hI => ?_) (fun hI => ?_))
        · refine g_ret ?_
          refine g_istore_n (n := 3) (i := 3) rfl (by decide) rfl d_M_orders_57 ?_
          refine g_aload_n (n := 0) (i := 0) rfl rfl d_M_orders_58 ?_
          refine g_dup rfl d_M_orders_59 ?_
          refine g_getfield 9 13 f_M_206 k2 (by rfl) d_M_orders_60 ?_
          rw [q13]
          refine g_iload_n (n := 3) (i := 3) rfl rfl d_M_orders_63 ?_
          refine g_if_eq_i (tgt := 71) (by decide) d_M_orders_64 (by decide) (fun h => absurd h (by decide)) (fun h64 => ?_)
          refine g_iconst_i d_M_orders_67 ?_
          refine g_goto (tgt := 72) (by decide) d_M_orders_68 ?_
          refine g_iadd_i d_M_orders_72 ?_
          refine g_putA 9 13 62 (by omega) hm2.2.1 f_M_206 (Or.inl rfl) (by rfl) (by rfl) (Nat.le_of_ble_eq_true rfl) d_M_orders_73 (fun w h3 h3n => ?_)
          have k2 : g_cell E w im (gad E 62) _ := g_mut 62 (by omega) h3
          have hm3 : MR E w (fU f2 13 (((tp (rdOrder t1).2) + 1))) m := ⟨hn, h3, (h3n 63 (by omega)).trans hm2.2.2⟩
          refine g_goto (tgt := 14) (by decide) d_M_orders_76 ?_
          have hlt2 : tp (rdOrder t1).2 < tl (rdOrder t1).2 := by
            by_cases h9 : tp (rdOrder t1).2 < tl (rdOrder t1).2
            · exact h9
            · rw [show sg (rdOrder t1).2 = 0 from if_neg h9] at hI; omega
          exact g_cut (lv' := [(0, .ref (gad E 62)), (1, .int (iI 0)), (2, .int (iI (k9 + 1))), (3, .int (iI 1))]) ⟨rfl, rfl, rfl, rfl, trivial⟩ (ih (k9 + 1) (tSk (tOr (rdOrder t1).2 (to' (rdOrder t1).2 + 1))) w _ (ht2.mk hm3 h3n rfl rfl rfl rfl (show 0 ≤ tp (rdOrder t1).2 + 1 ∧ tp (rdOrder t1).2 + 1 ≤ tl (rdOrder t1).2 by omega)) q14 (show to' (rdOrder t1).2 + 1 = k9 + 1 by omega) (show tl (rdOrder t1).2 - (tp (rdOrder t1).2 + 1) ≤ n9 by omega) (by rw [rdAll, if_pos hR, if_pos (show sg (tOr (rdOrder t1).2 (to' (rdOrder t1).2 + 1)) = 59 from (by have h9 : sg (tOr (rdOrder t1).2 (to' (rdOrder t1).2 + 1)) = sg (rdOrder t1).2 := rfl; omega))] at he; exact he) (fun i hi => (fU_n (by omega)).trans ((qf i hi).trans (hf i hi))) (fun j hj => (h3n j hj).trans ((hw2 j hj).trans (hw j hj))))
        · refine g_ret ?_
          refine g_istore_n (n := 3) (i := 3) rfl (by decide) rfl d_M_orders_57 ?_
          refine g_aload_n (n := 0) (i := 0) rfl rfl d_M_orders_58 ?_
          refine g_dup rfl d_M_orders_59 ?_
          refine g_getfield 9 13 f_M_206 k2 (by rfl) d_M_orders_60 ?_
          rw [q13]
          refine g_iload_n (n := 3) (i := 3) rfl rfl d_M_orders_63 ?_
          refine g_if_eq_i (tgt := 71) (by decide) d_M_orders_64 (by decide) (fun h64 => ?_) (fun h => absurd h (by decide))
          refine g_iconst_i d_M_orders_71 ?_
          refine g_iadd_i d_M_orders_72 ?_
          refine g_putA 9 13 62 (by omega) hm2.2.1 f_M_206 (Or.inl rfl) (by rfl) (by rfl) (Nat.le_of_ble_eq_true rfl) d_M_orders_73 (fun w h3 h3n => ?_)
          have k2 : g_cell E w im (gad E 62) _ := g_mut 62 (by omega) h3
          have hm3 : MR E w (fU f2 13 (((tp (rdOrder t1).2) + 0))) m := ⟨hn, h3, (h3n 63 (by omega)).trans hm2.2.2⟩
          refine g_goto (tgt := 14) (by decide) d_M_orders_76 ?_
          refine g_iload_n (n := 3) (i := 3) rfl rfl d_M_orders_14 ?_
          refine g_if_eq_i (tgt := 79) (by decide) d_M_orders_15 (by decide) (fun h15 => ?_) (fun h => absurd h (by decide))
          refine g_aload_n (n := 0) (i := 0) rfl rfl d_M_orders_79 ?_
          refine g_aload_n (n := 0) (i := 0) rfl rfl d_M_orders_80 ?_
          refine g_getfield 9 14 f_M_202 k2 (by rfl) d_M_orders_81 ?_
          rw [q14]
          refine g_if_ne_i (tgt := 98) (by decide) d_M_orders_84 (by decide) (fun h => absurd h (by decide)) (fun h84 => ?_)
          refine g_aload_n (n := 0) (i := 0) rfl rfl d_M_orders_87 ?_
          refine g_getfield 9 13 f_M_206 k2 (by rfl) d_M_orders_88 ?_
          refine g_aload_n (n := 0) (i := 0) rfl rfl d_M_orders_91 ?_
          refine g_getfield 9 12 f_M_209 k2 (by rfl) d_M_orders_92 ?_
          rw [ht2.2.2.1]
          refine g_icmp_ge_i (tgt := 102) (by omega) (by omega) d_M_orders_95 (by decide) (fun h95 => ?_) (fun h95 => ?_)
          · refine g_iconst_i d_M_orders_102 ?_
            refine g_putA 9 14 62 (by omega) h3 f_M_202 (Or.inl rfl) (by rfl) (by rfl) (Nat.le_of_ble_eq_true rfl) d_M_orders_103 (fun w h4 h4n => ?_)
            refine g_iload_n (n := 2) (i := 2) rfl rfl d_M_orders_106 ?_
            refine g_ireturn_i rfl d_M_orders_107 ?_
            have hrd : rdAll 60 t = (if tp (rdOrder t1).2 < tl (rdOrder t1).2 then tp (rdOrder t1).2 else -1, tOr (rdOrder t1).2 (to' (rdOrder t1).2 + 1)) := by rw [← he, rdAll, if_pos hR, if_neg (show ¬ sg (tOr (rdOrder t1).2 (to' (rdOrder t1).2 + 1)) = 59 from (fun h9 => hI ⟨q14, by rw [show sg (rdOrder t1).2 = 59 from h9]; decide⟩))]
            first
            | (rw [if_pos (by omega)] at hrd
               exact hQ2 (by rw [hrd]; show tp (rdOrder t1).2 ≠ -1; omega) _ (fU (fU f2 13 (tp (rdOrder t1).2 + 0)) 14 1) _ ⟨hn, h4, (h4n 63 (by omega)).trans hm3.2.2⟩ rfl (by rw [hrd]; exact Int.add_zero _) (fun i hi => (fU_n (by omega)).trans ((fU_n (by omega)).trans ((qf i hi).trans (hf i hi)))) (fun j hj => (h4n j hj).trans ((h3n j hj).trans ((hw2 j hj).trans (hw j hj)))))
            | (rw [if_neg (by omega)] at hrd
               rw [hrd] at hQ1
               exact g_qi (hQ1 rfl _ (fU (fU f2 13 (tp (rdOrder t1).2 + 0)) 14 0) ⟨hn, h4, (h4n 63 (by omega)).trans hm3.2.2⟩ rfl (fun i hi => (fU_n (by omega)).trans ((fU_n (by omega)).trans ((qf i hi).trans (hf i hi)))) (fun j hj => (h4n j hj).trans ((h3n j hj).trans ((hw2 j hj).trans (hw j hj))))) (show k9 + 1 = to' (rdOrder t1).2 + 1 by omega))
          · refine g_iconst_i d_M_orders_98 ?_
            refine g_goto (tgt := 103) (by decide) d_M_orders_99 ?_
            refine g_putA 9 14 62 (by omega) h3 f_M_202 (Or.inl rfl) (by rfl) (by rfl) (Nat.le_of_ble_eq_true rfl) d_M_orders_103 (fun w h4 h4n => ?_)
            refine g_iload_n (n := 2) (i := 2) rfl rfl d_M_orders_106 ?_
            refine g_ireturn_i rfl d_M_orders_107 ?_
            have hrd : rdAll 60 t = (if tp (rdOrder t1).2 < tl (rdOrder t1).2 then tp (rdOrder t1).2 else -1, tOr (rdOrder t1).2 (to' (rdOrder t1).2 + 1)) := by rw [← he, rdAll, if_pos hR, if_neg (show ¬ sg (tOr (rdOrder t1).2 (to' (rdOrder t1).2 + 1)) = 59 from (fun h9 => hI ⟨q14, by rw [show sg (rdOrder t1).2 = 59 from h9]; decide⟩))]
            first
            | (rw [if_pos (by omega)] at hrd
               exact hQ2 (by rw [hrd]; show tp (rdOrder t1).2 ≠ -1; omega) _ (fU (fU f2 13 (tp (rdOrder t1).2 + 0)) 14 1) _ ⟨hn, h4, (h4n 63 (by omega)).trans hm3.2.2⟩ rfl (by rw [hrd]; exact Int.add_zero _) (fun i hi => (fU_n (by omega)).trans ((fU_n (by omega)).trans ((qf i hi).trans (hf i hi)))) (fun j hj => (h4n j hj).trans ((h3n j hj).trans ((hw2 j hj).trans (hw j hj)))))
            | (rw [if_neg (by omega)] at hrd
               rw [hrd] at hQ1
               exact g_qi (hQ1 rfl _ (fU (fU f2 13 (tp (rdOrder t1).2 + 0)) 14 0) ⟨hn, h4, (h4n 63 (by omega)).trans hm3.2.2⟩ rfl (fun i hi => (fU_n (by omega)).trans ((fU_n (by omega)).trans ((qf i hi).trans (hf i hi)))) (fun j hj => (h4n j hj).trans ((h3n j hj).trans ((hw2 j hj).trans (hw j hj))))) (show k9 + 1 = to' (rdOrder t1).2 + 1 by omega))
      · refine g_retv ?_
        have hn := hm2.1
        have k2 : g_cell E w im (gad E 62) _ := g_mut 62 (by omega) hm2.2.1
        have hpo : tp (rdOrder t1).2 = f2 13 := q13.symm
        have ht2' : MT E w f2 m (tP t1 (f2 13)) := ht1.mk hm2 hw2 (qf 12 (by omega)) rfl rfl rfl (by rw [q13]; exact rdOrder_pr ht1.2.2.2.2.2.1)
        refine g_aload_n (n := 0) (i := 0) rfl rfl d_M_orders_22 ?_
        refine g_getfield 9 14 f_M_202 k2 (by rfl) d_M_orders_23 ?_
        rw [q14]
        refine g_if_ne_i (tgt := 46) (by decide) d_M_orders_26 (by decide) (fun h26 => ?_) (fun h => absurd h (by decide))
        refine g_iinc_i (i := 2) rfl (by decide) rfl d_M_orders_46 ?_
        refine g_aload_n (n := 0) (i := 0) rfl rfl d_M_orders_49 ?_
        refine g_bipush_i (by decide) d_M_orders_50 ?_
        refine g_bipush_i (by decide) d_M_orders_52 ?_
        refine g_callV2 rfl rfl e_M_isAt l_M_212 iv_M_isAt 9 (by decide) rfl (by assumption) (by decide) (Nat.zero_le _) (Nat.zero_le _) (Nat.le_of_ble_eq_true rfl) d_M_orders_54 (c_M_isAt (hQ1 := fun h _ => absurd (q14.symm.trans h) (by decide)) ht2' (by omega) (by omega) (by omega) (fun hI => ?_))
        refine g_ret ?_
        refine g_istore_n (n := 3) (i := 3) rfl (by decide) rfl d_M_orders_57 ?_
        refine g_aload_n (n := 0) (i := 0) rfl rfl d_M_orders_58 ?_
        refine g_dup rfl d_M_orders_59 ?_
        refine g_getfield 9 13 f_M_206 k2 (by rfl) d_M_orders_60 ?_
        rw [q13]
        refine g_iload_n (n := 3) (i := 3) rfl rfl d_M_orders_63 ?_
        refine g_if_eq_i (tgt := 71) (by decide) d_M_orders_64 (by decide) (fun h64 => ?_) (fun h => absurd h (by decide))
        refine g_iconst_i d_M_orders_71 ?_
        refine g_iadd_i d_M_orders_72 ?_
        refine g_putA 9 13 62 (by omega) hm2.2.1 f_M_206 (Or.inl rfl) (by rfl) (by rfl) (Nat.le_of_ble_eq_true rfl) d_M_orders_73 (fun w h3 h3n => ?_)
        have k2 : g_cell E w im (gad E 62) _ := g_mut 62 (by omega) h3
        have hm3 : MR E w (fU f2 13 (((tp (rdOrder t1).2) + 0))) m := ⟨hn, h3, (h3n 63 (by omega)).trans hm2.2.2⟩
        refine g_goto (tgt := 14) (by decide) d_M_orders_76 ?_
        refine g_iload_n (n := 3) (i := 3) rfl rfl d_M_orders_14 ?_
        refine g_if_eq_i (tgt := 79) (by decide) d_M_orders_15 (by decide) (fun h15 => ?_) (fun h => absurd h (by decide))
        refine g_aload_n (n := 0) (i := 0) rfl rfl d_M_orders_79 ?_
        refine g_aload_n (n := 0) (i := 0) rfl rfl d_M_orders_80 ?_
        refine g_getfield 9 14 f_M_202 k2 (by rfl) d_M_orders_81 ?_
        rw [q14]
        refine g_if_ne_i (tgt := 98) (by decide) d_M_orders_84 (by decide) (fun h84 => ?_) (fun h => absurd h (by decide))
        refine g_iconst_i d_M_orders_98 ?_
        refine g_goto (tgt := 103) (by decide) d_M_orders_99 ?_
        refine g_putA 9 14 62 (by omega) h3 f_M_202 (Or.inl rfl) (by rfl) (by rfl) (Nat.le_of_ble_eq_true rfl) d_M_orders_103 (fun w h4 h4n => ?_)
        refine g_iload_n (n := 2) (i := 2) rfl rfl d_M_orders_106 ?_
        refine g_ireturn_i rfl d_M_orders_107 ?_
        have hrd : (rdAll 60 t).1 = tp (rdOrder t1).2 := by rw [← he, rdAll, if_neg (by rw [hR]; exact Bool.false_ne_true)]
        exact hQ2 (by rw [hrd]; have hpr := rdOrder_pr ht1p; omega) _ (fU (fU f2 13 (tp (rdOrder t1).2 + 0)) 14 1) _ ⟨hn, h4, (h4n 63 (by omega)).trans hm3.2.2⟩ rfl (by rw [hrd]; exact Int.add_zero _) (fun i hi => (fU_n (by omega)).trans ((fU_n (by omega)).trans ((qf i hi).trans (hf i hi)))) (fun j hj => (h4n j hj).trans ((h3n j hj).trans ((hw2 j hj).trans (hw j hj))))
  obtain ⟨hn, u2, u3⟩ := id hm
  have k2 : g_cell E w im (gad E 62) _ := g_mut 62 (by omega) u2
  have k3 : g_cell E w im (gad E 63) _ := g_mut 63 (by omega) u3
  refine g_enter (by decide) rfl rfl (fun h => by first | rfl | cases h) (Nat.le_of_ble_eq_true rfl) rfl ?_
  refine g_aload_n (n := 0) (i := 0) rfl rfl d_M_orders_0 ?_
  refine g_iconst_i d_M_orders_1 ?_
  refine g_putA 9 13 62 (by omega) u2 f_M_206 (Or.inl rfl) (by rfl) (by rfl) (Nat.le_of_ble_eq_true rfl) d_M_orders_2 (fun w h1 h1n => ?_)
  have k2 : g_cell E w im (gad E 62) _ := g_mut 62 (by omega) h1
  refine g_aload_n (n := 0) (i := 0) rfl rfl d_M_orders_5 ?_
  refine g_iconst_i d_M_orders_6 ?_
  refine g_putA 9 14 62 (by omega) h1 f_M_202 (Or.inl rfl) (by rfl) (by rfl) (Nat.le_of_ble_eq_true rfl) d_M_orders_7 (fun w h2 h2n => ?_)
  have k2 : g_cell E w im (gad E 62) _ := g_mut 62 (by omega) h2
  refine g_iconst_i d_M_orders_10 ?_
  refine g_istore_n (n := 2) (i := 2) rfl (by decide) rfl d_M_orders_11 ?_
  refine g_iconst_i d_M_orders_12 ?_
  refine g_istore_n (n := 3) (i := 3) rfl (by decide) rfl d_M_orders_13 ?_
  exact g_cut (lv' := [(0, .ref (gad E 62)), (1, .int (iI 0)), (2, .int (iI 0)), (3, .int (iI 1))]) ⟨rfl, rfl, rfl, rfl, trivial⟩ (loop 60 0 t w (fU (fU f 13 0) 14 0) ⟨⟨hn, h2, (h2n 63 (by omega)).trans ((h1n 63 (by omega)).trans u3)⟩, (h2n 67 (by omega)).trans ((h1n 67 (by omega)).trans y7), y12, yp0.symm, yl, by omega, ys⟩ rfl yo (by omega) rfl (fun i hi => (fU_n (by omega)).trans (fU_n (by omega))) (fun j hj => (h2n j hj).trans (h1n j hj)))

