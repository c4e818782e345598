/-! ===== the reference: it reads an order; append ===== -/
theorem rdMore_tc {n : Nat} {t : Tx} : tc (rdMore n t) = tc t := by
  induction n generalizing t with
  | zero => rfl
  | succ n ih =>
    rw [rdMore]
    split
    · exact ih (t := tDg t)
    · rfl
theorem rdMore_tp {n : Nat} {t : Tx} (h : tp t ≤ tl t) : tp t ≤ tp (rdMore n t) ∧ tp (rdMore n t) ≤ tl t := by
  induction n generalizing t with
  | zero => exact ⟨Int.le_refl _, h⟩
  | succ n ih =>
    rw [rdMore]
    split
    · rename_i hd
      have hlt := dgB_lt hd.2
      have := ih (t := tDg t) (show tp t + 1 ≤ tl t by omega)
      have e : tp (tDg t) = tp t + 1 := rfl
      have e2 : tl (tDg t) = tl t := rfl
      omega
    · exact ⟨Int.le_refl _, h⟩

theorem c_M_isLetter {E : gE} {w : gW} {im : gIm} {Q : gQ} {f : Nat → Int} {m : Int → Int} {t : Tx} (ht : MT E w f m t) (r14 : f 14 = 0) (hQ1 : (sg t = 115 ∨ numLB (sg t) = true) → Q (.inl (some (.int (iI 1)))) w im) (hQ2 : ¬ (sg t = 115 ∨ numLB (sg t) = true) → Q (.inl (some (.int (iI 0)))) w im) : GM E 2 y_M_isLetter m_M_isLetter 0 0 [.ref (gad E 62)] w im Q := by
  obtain ⟨hm, y7, y12, y13, yl, yp, ys⟩ := id ht
  obtain ⟨hn, u2, u3⟩ := id hm
  have k2 : g_cell E w im (gad E 62) _ := g_mut 62 (by omega) u2
  have k3 : g_cell E w im (gad E 63) _ := g_mut 63 (by omega) u3
  have k7 : g_cell E w im (gad E 67) _ := g_mut 67 (by omega) y7
  refine g_enter (by decide) rfl rfl (fun h => by first | rfl | cases h) (Nat.le_of_ble_eq_true rfl) rfl ?_
  refine g_aload_n (n := 0) (i := 0) rfl rfl d_M_isLetter_0 ?_
  refine g_bipush_i (by decide) d_M_isLetter_1 ?_
  refine g_bipush_i (by decide) d_M_isLetter_3 ?_
  refine g_callV2 rfl rfl e_M_isAt l_M_212 iv_M_isAt 9 (by decide) rfl (by assumption) (by decide) (Nat.zero_le _) (Nat.zero_le _) (Nat.le_of_ble_eq_true rfl) d_M_isLetter_5 (c_M_isAt ht (by omega) (by omega) (by omega) (fun h14 h1 => ?_) (fun h1 => ?_))
  · refine g_ret ?_
    refine g_if_ne_i (tgt := 55) (by decide) d_M_isLetter_8 (by decide) (fun h8 => ?_) (fun h => absurd h (by decide))
    refine g_iconst_i d_M_isLetter_55 ?_
    refine g_goto (tgt := 60) (by decide) d_M_isLetter_56 ?_
    refine g_ireturn_1 rfl d_M_isLetter_60 ?_
    first
    | exact hQ1 (by simp only [numLB, decide_eq_true_eq]; omega)
    | exact hQ2 (by simp only [numLB, decide_eq_true_eq]; omega)
  · refine g_ret ?_
    refine g_if_ne_i (tgt := 55) (by decide) d_M_isLetter_8 (by decide) (fun h => absurd h (by decide)) (fun h8 => ?_)
    refine g_aload_n (n := 0) (i := 0) rfl rfl d_M_isLetter_11 ?_
    refine g_bipush_i (by decide) d_M_isLetter_12 ?_
    refine g_bipush_i (by decide) d_M_isLetter_14 ?_
    refine g_callV2 rfl rfl e_M_isAt l_M_212 iv_M_isAt 9 (by decide) rfl (by assumption) (by decide) (Nat.zero_le _) (Nat.zero_le _) (Nat.le_of_ble_eq_true rfl) d_M_isLetter_16 (c_M_isAt ht (by omega) (by omega) (by omega) (fun h24 h2 => ?_) (fun h2 => ?_))
    · refine g_ret ?_
      refine g_if_ne_i (tgt := 55) (by decide) d_M_isLetter_19 (by decide) (fun h19 => ?_) (fun h => absurd h (by decide))
      refine g_iconst_i d_M_isLetter_55 ?_
      refine g_goto (tgt := 60) (by decide) d_M_isLetter_56 ?_
      refine g_ireturn_1 rfl d_M_isLetter_60 ?_
      first
      | exact hQ1 (by simp only [numLB, decide_eq_true_eq]; omega)
      | exact hQ2 (by simp only [numLB, decide_eq_true_eq]; omega)
    · refine g_ret ?_
      refine g_if_ne_i (tgt := 55) (by decide) d_M_isLetter_19 (by decide) (fun h => absurd h (by decide)) (fun h19 => ?_)
      refine g_aload_n (n := 0) (i := 0) rfl rfl d_M_isLetter_22 ?_
      refine g_bipush_i (by decide) d_M_isLetter_23 ?_
      refine g_bipush_i (by decide) d_M_isLetter_25 ?_
      refine g_callV2 rfl rfl e_M_isAt l_M_212 iv_M_isAt 9 (by decide) rfl (by assumption) (by decide) (Nat.zero_le _) (Nat.zero_le _) (Nat.le_of_ble_eq_true rfl) d_M_isLetter_27 (c_M_isAt ht (by omega) (by omega) (by omega) (fun h34 h3 => ?_) (fun h3 => ?_))
      · refine g_ret ?_
        refine g_if_ne_i (tgt := 55) (by decide) d_M_isLetter_30 (by decide) (fun h30 => ?_) (fun h => absurd h (by decide))
        refine g_iconst_i d_M_isLetter_55 ?_
        refine g_goto (tgt := 60) (by decide) d_M_isLetter_56 ?_
        refine g_ireturn_1 rfl d_M_isLetter_60 ?_
        first
        | exact hQ1 (by simp only [numLB, decide_eq_true_eq]; omega)
        | exact hQ2 (by simp only [numLB, decide_eq_true_eq]; omega)
      · refine g_ret ?_
        refine g_if_ne_i (tgt := 55) (by decide) d_M_isLetter_30 (by decide) (fun h => absurd h (by decide)) (fun h30 => ?_)
        refine g_aload_n (n := 0) (i := 0) rfl rfl d_M_isLetter_33 ?_
        refine g_bipush_i (by decide) d_M_isLetter_34 ?_
        refine g_bipush_i (by decide) d_M_isLetter_36 ?_
        refine g_callV2 rfl rfl e_M_isAt l_M_212 iv_M_isAt 9 (by decide) rfl (by assumption) (by decide) (Nat.zero_le _) (Nat.zero_le _) (Nat.le_of_ble_eq_true rfl) d_M_isLetter_38 (c_M_isAt ht (by omega) (by omega) (by omega) (fun h44 h4 => ?_) (fun h4 => ?_))
        · refine g_ret ?_
          refine g_if_ne_i (tgt := 55) (by decide) d_M_isLetter_41 (by decide) (fun h41 => ?_) (fun h => absurd h (by decide))
          refine g_iconst_i d_M_isLetter_55 ?_
          refine g_goto (tgt := 60) (by decide) d_M_isLetter_56 ?_
          refine g_ireturn_1 rfl d_M_isLetter_60 ?_
          first
          | exact hQ1 (by simp only [numLB, decide_eq_true_eq]; omega)
          | exact hQ2 (by simp only [numLB, decide_eq_true_eq]; omega)
        · refine g_ret ?_
          refine g_if_ne_i (tgt := 55) (by decide) d_M_isLetter_41 (by decide) (fun h => absurd h (by decide)) (fun h41 => ?_)
          refine g_aload_n (n := 0) (i := 0) rfl rfl d_M_isLetter_44 ?_
          refine g_bipush_i (by decide) d_M_isLetter_45 ?_
          refine g_bipush_i (by decide) d_M_isLetter_47 ?_
          refine g_callV2 rfl rfl e_M_isAt l_M_212 iv_M_isAt 9 (by decide) rfl (by assumption) (by decide) (Nat.zero_le _) (Nat.zero_le _) (Nat.le_of_ble_eq_true rfl) d_M_isLetter_49 (c_M_isAt ht (by omega) (by omega) (by omega) (fun h54 h5 => ?_) (fun h5 => ?_))
          · refine g_ret ?_
            refine g_if_eq_i (tgt := 59) (by decide) d_M_isLetter_52 (by decide) (fun h => absurd h (by decide)) (fun h52 => ?_)
            refine g_iconst_i d_M_isLetter_55 ?_
            refine g_goto (tgt := 60) (by decide) d_M_isLetter_56 ?_
            refine g_ireturn_1 rfl d_M_isLetter_60 ?_
            first
            | exact hQ1 (by simp only [numLB, decide_eq_true_eq]; omega)
            | exact hQ2 (by simp only [numLB, decide_eq_true_eq]; omega)
          · refine g_ret ?_
            refine g_if_eq_i (tgt := 59) (by decide) d_M_isLetter_52 (by decide) (fun h52 => ?_) (fun h => absurd h (by decide))
            refine g_iconst_i d_M_isLetter_59 ?_
            refine g_ireturn_0 rfl d_M_isLetter_60 ?_
            first
            | exact hQ1 (by simp only [numLB, decide_eq_true_eq]; omega)
            | exact hQ2 (by simp only [numLB, decide_eq_true_eq]; omega)

theorem c_M_readsOrder {E : gE} {w : gW} {im : gIm} {Q : gQ} {f : Nat → Int} {m : Int → Int} {t : Tx} (ht : MT E w f m t) (r14 : f 14 = 0) (hQ1 : (rdOrder t).1 = true → ∀ w' f', MR E w' f' m → f' 14 = 0 → f' 13 = tp (rdOrder t).2 → f' 15 = tc (rdOrder t).2 → f' 16 = tn (rdOrder t).2 → (tc (rdOrder t).2 = 115 → f' 17 = tt (rdOrder t).2) → (∀ i, i < 13 → f' i = f i) → (∀ j, j ≠ 62 → w' j = w j) → Q (.inl none) w' im) (hQ2 : (rdOrder t).1 = false → ∀ w' f', MR E w' f' m → f' 14 = 1 → f' 13 = tp (rdOrder t).2 → (∀ i, i < 13 → f' i = f i) → (∀ j, j ≠ 62 → w' j = w j) → Q (.inl none) w' im) : GM E 4 y_M_readsOrder m_M_readsOrder 0 0 [.ref (gad E 62)] w im Q := by
  obtain ⟨hm, y7, y12, y13, yl, yp, ys⟩ := id ht
  obtain ⟨hn, u2, u3⟩ := id hm
  have k2 : g_cell E w im (gad E 62) _ := g_mut 62 (by omega) u2
  have k3 : g_cell E w im (gad E 63) _ := g_mut 63 (by omega) u3
  have k7 : g_cell E w im (gad E 67) _ := g_mut 67 (by omega) y7
  refine g_enter (by decide) rfl rfl (fun h => by first | rfl | cases h) (Nat.le_of_ble_eq_true rfl) rfl ?_
  refine g_aload_n (n := 0) (i := 0) rfl rfl d_M_readsOrder_0 ?_
  refine g_callV0 rfl rfl e_M_isLetter l_M_222 iv_M_isLetter 9 (by decide) rfl (by assumption) (by decide) (Nat.zero_le _) (Nat.zero_le _) (Nat.le_of_ble_eq_true rfl) d_M_readsOrder_1 (c_M_isLetter ht r14 (fun hL => ?_) (fun hL => ?_))
  · refine g_ret ?_
    refine g_if_ne_i (tgt := 13) (by decide) d_M_readsOrder_4 (by decide) (fun h4 => ?_) (fun h => absurd h (by decide))
    have hltt : tp t < tl t := by
      by_cases h9 : tp t < tl t
      · exact h9
      · rw [show sg t = 0 from if_neg h9] at hL; simp only [numLB, decide_eq_true_eq] at hL; omega
    have hsg : sg t = ts t (tp t) := if_pos hltt
    have hys := ys (tp t) (by omega)
    refine g_aload_n (n := 0) (i := 0) rfl rfl d_M_readsOrder_13 ?_
    refine g_aload_n (n := 0) (i := 0) rfl rfl d_M_readsOrder_14 ?_
    refine g_getfield 9 10 f_M_29 (by assumption) (by rfl) d_M_readsOrder_15 ?_
    refine g_aload_n (n := 0) (i := 0) rfl rfl d_M_readsOrder_18 ?_
    refine g_getfield 9 13 f_M_206 k2 (by rfl) d_M_readsOrder_19 ?_
    rw [y13]
    refine g_caload_i k7 (by omega) (by omega) (by rfl) d_M_readsOrder_22 ?_
    rw [← hsg]
    refine g_putA 9 15 62 (by omega) u2 f_M_226 (Or.inl rfl) (iI_char (by omega)).1 (iI_char (by omega)).2 (Nat.le_of_ble_eq_true rfl) d_M_readsOrder_23 (fun w h1 h1n => ?_)
    have k2 : g_cell E w im (gad E 62) _ := g_mut 62 (by omega) h1
    refine g_aload_n (n := 0) (i := 0) rfl rfl d_M_readsOrder_26 ?_
    refine g_dup rfl d_M_readsOrder_27 ?_
    refine g_getfield 9 13 f_M_206 k2 (by rfl) d_M_readsOrder_28 ?_
    rw [y13]
    refine g_iconst_i d_M_readsOrder_31 ?_
    refine g_iadd_i d_M_readsOrder_32 ?_
    refine g_putA 9 13 62 (by omega) h1 f_M_206 (Or.inl rfl) (by rfl) (by rfl) (Nat.le_of_ble_eq_true rfl) d_M_readsOrder_33 (fun w h2 h2n => ?_)
    have k2 : g_cell E w im (gad E 62) _ := g_mut 62 (by omega) h2
    refine g_aload_n (n := 0) (i := 0) rfl rfl d_M_readsOrder_36 ?_
    refine g_iconst_i d_M_readsOrder_37 ?_
    refine g_putA 9 17 62 (by omega) h2 f_M_230 (Or.inl rfl) (by rfl) (by rfl) (Nat.le_of_ble_eq_true rfl) d_M_readsOrder_38 (fun w h3 h3n => ?_)
    have k2 : g_cell E w im (gad E 62) _ := g_mut 62 (by omega) h3
    have hfr3 : ∀ j, j ≠ 62 → w j = _ := fun j hj => (h3n j hj).trans ((h2n j hj).trans (h1n j hj))
    have ht1 : MT E w (fU (fU (fU f 15 (sg t)) 13 (tp t + 1)) 17 1) m (tSk (tLt t (sg t))) := ht.mk (f' := fU (fU (fU f 15 (sg t)) 13 (tp t + 1)) 17 1) ⟨hn, h3, (hfr3 63 (by omega)).trans u3⟩ hfr3 rfl rfl rfl rfl (show 0 ≤ tp t + 1 ∧ tp t + 1 ≤ tl t by omega)
    refine g_aload_n (n := 0) (i := 0) rfl rfl d_M_readsOrder_41 ?_
    refine g_getfield 9 15 f_M_226 k2 (by rfl) d_M_readsOrder_42 ?_
    refine g_bipush_i (by decide) d_M_readsOrder_45 ?_
    refine g_icmp_eq_i (tgt := 55) (by omega) (by decide) d_M_readsOrder_47 (by decide) (fun h47 => ?_) (fun h47 => ?_)
    · refine g_aload_n (n := 0) (i := 0) rfl rfl d_M_readsOrder_55 ?_
      refine g_aload_n (n := 0) (i := 0) rfl rfl d_M_readsOrder_56 ?_
      refine g_callV0 rfl rfl e_M_digit l_M_216 iv_M_digit 9 (by decide) rfl (by assumption) (by decide) (Nat.zero_le _) (Nat.zero_le _) (Nat.le_of_ble_eq_true rfl) d_M_readsOrder_57 (c_M_digit ht1 (by rw [show (fU (fU (fU f 15 (sg t)) 13 (tp t + 1)) 17 1) 14 = f 14 from rfl, r14]; omega) (fun hD4 hD w hm4 hw4 => ?_) (fun hD w hm4 hw4 => ?_))
      · refine g_ret ?_
        have h4 := hm4.2.1
        have hlt1 : tp t + 1 < tl t := dgB_lt hD
        have hdk : (1 : Int) = 1 := rfl
        refine g_putA 9 16 62 (by omega) h4 f_M_219 (Or.inl rfl) (by rfl) (by rfl) (Nat.le_of_ble_eq_true rfl) d_M_readsOrder_60 (fun w h5 h5n => ?_)
        have k2 : g_cell E w im (gad E 62) _ := g_mut 62 (by omega) h5
        have hfr5 : ∀ j, j ≠ 62 → w j = _ := fun j hj => (h5n j hj).trans ((hw4 j hj).trans (hfr3 j hj))
        have hm5 : MR E w (fU (fU (fU (fU (fU f 15 (sg t)) 13 (tp t + 1)) 17 1) 13 (tp (tSk (tLt t (sg t))) + 1)) 16 (sg (tSk (tLt t (sg t))) - 48)) m := ⟨hn, h5, (hfr5 63 (by omega)).trans u3⟩
        have ht5 : MT E w (fU (fU (fU (fU (fU f 15 (sg t)) 13 (tp t + 1)) 17 1) 13 (tp (tSk (tLt t (sg t))) + 1)) 16 (sg (tSk (tLt t (sg t))) - 48)) m (tSk (tSk (tLt t (sg t)))) := ht.mk (f' := fU (fU (fU (fU (fU f 15 (sg t)) 13 (tp t + 1)) 17 1) 13 (tp (tSk (tLt t (sg t))) + 1)) 16 (sg (tSk (tLt t (sg t))) - 48)) hm5 hfr5 rfl rfl rfl rfl (show 0 ≤ tp t + 1 + 1 ∧ tp t + 1 + 1 ≤ tl t by omega)
        refine g_aload_n (n := 0) (i := 0) rfl rfl d_M_readsOrder_63 ?_
        refine g_bipush_i (by decide) d_M_readsOrder_64 ?_
        refine g_bipush_i (by decide) d_M_readsOrder_66 ?_
        refine g_callV2 rfl rfl e_M_isAt l_M_212 iv_M_isAt 9 (by decide) rfl (by assumption) (by decide) (Nat.zero_le _) (Nat.zero_le _) (Nat.le_of_ble_eq_true rfl) d_M_readsOrder_68 (c_M_isAt ht5 (by omega) (by omega) (by rw [show (fU (fU (fU (fU (fU f 15 (sg t)) 13 (tp t + 1)) 17 1) 13 (tp (tSk (tLt t (sg t))) + 1)) 16 (sg (tSk (tLt t (sg t))) - 48)) 14 = f 14 from rfl, r14]; omega) (fun hI4 hI => ?_) (fun hI => ?_))
        · refine g_ret ?_
          have hI42 : sg (tDg (tTm (tNm (tSk (tLt t (sg t))) 0) 1)) = 42 := by have h9 : sg (tSk (tSk (tLt t (sg t)))) = sg (tDg (tTm (tNm (tSk (tLt t (sg t))) 0) 1)) := rfl; omega
          refine g_if_eq_i (tgt := 92) (by decide) d_M_readsOrder_71 (by decide) (fun h => absurd h (by decide)) (fun h71 => ?_)
          refine g_aload_n (n := 0) (i := 0) rfl rfl d_M_readsOrder_74 ?_
          refine g_dup rfl d_M_readsOrder_75 ?_
          refine g_getfield 9 13 f_M_206 k2 (by rfl) d_M_readsOrder_76 ?_
          refine g_iconst_i d_M_readsOrder_79 ?_
          refine g_iadd_i d_M_readsOrder_80 ?_
          refine g_putA 9 13 62 (by omega) h5 f_M_206 (Or.inl rfl) (by rfl) (by rfl) (Nat.le_of_ble_eq_true rfl) d_M_readsOrder_81 (fun w h6 h6n => ?_)
          have k2 : g_cell E w im (gad E 62) _ := g_mut 62 (by omega) h6
          have hlt2 : tp t + 1 + 1 < tl t := by
            by_cases h9 : tp t + 1 + 1 < tl t
            · exact h9
            · exact absurd hI42 (by rw [show sg (tDg (tTm (tNm (tSk (tLt t (sg t))) 0) 1)) = 0 from if_neg h9]; decide)
          have hfr6 : ∀ j, j ≠ 62 → w j = _ := fun j hj => (h6n j hj).trans (hfr5 j hj)
          have hm6 : MR E w (fU (fU (fU (fU (fU (fU f 15 (sg t)) 13 (tp t + 1)) 17 1) 13 (tp (tSk (tLt t (sg t))) + 1)) 16 (sg (tSk (tLt t (sg t))) - 48)) 13 (tp (tSk (tLt t (sg t))) + 1 + 1)) m := ⟨hn, h6, (hfr6 63 (by omega)).trans u3⟩
          have ht6 : MT E w (fU (fU (fU (fU (fU (fU f 15 (sg t)) 13 (tp t + 1)) 17 1) 13 (tp (tSk (tLt t (sg t))) + 1)) 16 (sg (tSk (tLt t (sg t))) - 48)) 13 (tp (tSk (tLt t (sg t))) + 1 + 1)) m (tSk (tSk (tSk (tLt t (sg t))))) := ht.mk (f' := fU (fU (fU (fU (fU (fU f 15 (sg t)) 13 (tp t + 1)) 17 1) 13 (tp (tSk (tLt t (sg t))) + 1)) 16 (sg (tSk (tLt t (sg t))) - 48)) 13 (tp (tSk (tLt t (sg t))) + 1 + 1)) hm6 hfr6 rfl rfl rfl rfl (show 0 ≤ tp t + 1 + 1 + 1 ∧ tp t + 1 + 1 + 1 ≤ tl t by omega)
          refine g_aload_n (n := 0) (i := 0) rfl rfl d_M_readsOrder_84 ?_
          refine g_aload_n (n := 0) (i := 0) rfl rfl d_M_readsOrder_85 ?_
          refine g_callV0 rfl rfl e_M_digit l_M_216 iv_M_digit 9 (by decide) rfl (by assumption) (by decide) (Nat.zero_le _) (Nat.zero_le _) (Nat.le_of_ble_eq_true rfl) d_M_readsOrder_86 (c_M_digit ht6 (by rw [show (fU (fU (fU (fU (fU (fU f 15 (sg t)) 13 (tp t + 1)) 17 1) 13 (tp (tSk (tLt t (sg t))) + 1)) 16 (sg (tSk (tLt t (sg t))) - 48)) 13 (tp (tSk (tLt t (sg t))) + 1 + 1)) 14 = f 14 from rfl, r14]; omega) (fun hE4 hE w hm7 hw7 => ?_) (fun hE w hm7 hw7 => ?_))
          · refine g_ret ?_
            have h7 := hm7.2.1
            refine g_putA 9 17 62 (by omega) h7 f_M_230 (Or.inl rfl) (by rfl) (by rfl) (Nat.le_of_ble_eq_true rfl) d_M_readsOrder_89 (fun w h8 h8n => ?_)
            have k2 : g_cell E w im (gad E 62) _ := g_mut 62 (by omega) h8
            have hfr8 : ∀ j, j ≠ 62 → w j = _ := fun j hj => (h8n j hj).trans ((hw7 j hj).trans ((h6n j hj).trans (hfr5 j hj)))
            have hm8 : MR E w (fU (fU (fU (fU (fU (fU (fU (fU f 15 (sg t)) 13 (tp t + 1)) 17 1) 13 (tp (tSk (tLt t (sg t))) + 1)) 16 (sg (tSk (tLt t (sg t))) - 48)) 13 (tp (tSk (tLt t (sg t))) + 1 + 1)) 13 (tp (tSk (tSk (tSk (tLt t (sg t))))) + 1)) 17 (sg (tSk (tSk (tSk (tLt t (sg t))))) - 48)) m := ⟨hn, h8, (hfr8 63 (by omega)).trans u3⟩
            refine g_return rfl d_M_readsOrder_92 ?_
            have hr : rdOrder t = rdSale (tSk (tLt t (sg t))) := by unfold rdOrder; rw [if_pos (by assumption)]
            have hr2 : rdOrder t = (true, tNm (tTm (tDg (tNm (tSk (tDg (tTm (tNm (tSk (tLt t (sg t))) 0) 1))) 0)) (tn (tDg (tNm (tSk (tDg (tTm (tNm (tSk (tLt t (sg t))) 0) 1))) 0)))) (tn (tDg (tTm (tNm (tSk (tLt t (sg t))) 0) 1)))) := by rw [hr]; unfold rdSale; rw [if_pos (show dgB (tTm (tNm (tSk (tLt t (sg t))) 0) 1) = true from hD), if_pos hI42, if_pos (show dgB (tNm (tSk (tDg (tTm (tNm (tSk (tLt t (sg t))) 0) 1))) 0) = true from hE)]
            rw [hr2] at hQ1
            exact hQ1 rfl _ (fU (fU (fU (fU (fU (fU (fU (fU f 15 (sg t)) 13 (tp t + 1)) 17 1) 13 (tp (tSk (tLt t (sg t))) + 1)) 16 (sg (tSk (tLt t (sg t))) - 48)) 13 (tp (tSk (tLt t (sg t))) + 1 + 1)) 13 (tp (tSk (tSk (tSk (tLt t (sg t))))) + 1)) 17 (sg (tSk (tSk (tSk (tLt t (sg t))))) - 48)) hm8 r14 rfl rfl (show sg (tSk (tLt t (sg t))) - 48 = 0 * 10 + sg (tSk (tLt t (sg t))) - 48 by omega) (fun _ => show sg (tSk (tSk (tSk (tLt t (sg t))))) - 48 = 0 * 10 + sg (tSk (tSk (tSk (tLt t (sg t))))) - 48 by omega) (fun i hi => by simp only [fU]; (repeat' rw [if_neg (by omega)])) hfr8
          · refine g_ret ?_
            have h7 := hm7.2.1
            have hE : ¬ dgB (tSk (tSk (tSk (tLt t (sg t))))) = true := fun h => hE ⟨r14, h⟩
            refine g_putA 9 17 62 (by omega) h7 f_M_230 (Or.inl rfl) (by rfl) (by rfl) (Nat.le_of_ble_eq_true rfl) d_M_readsOrder_89 (fun w h8 h8n => ?_)
            have k2 : g_cell E w im (gad E 62) _ := g_mut 62 (by omega) h8
            have hfr8 : ∀ j, j ≠ 62 → w j = _ := fun j hj => (h8n j hj).trans ((hw7 j hj).trans ((h6n j hj).trans (hfr5 j hj)))
            have hm8 : MR E w (fU (fU (fU (fU (fU (fU (fU (fU f 15 (sg t)) 13 (tp t + 1)) 17 1) 13 (tp (tSk (tLt t (sg t))) + 1)) 16 (sg (tSk (tLt t (sg t))) - 48)) 13 (tp (tSk (tLt t (sg t))) + 1 + 1)) 14 1) 17 0) m := ⟨hn, h8, (hfr8 63 (by omega)).trans u3⟩
            refine g_return rfl d_M_readsOrder_92 ?_
            have hr : rdOrder t = rdSale (tSk (tLt t (sg t))) := by unfold rdOrder; rw [if_pos (by assumption)]
            have hr2 : rdOrder t = (false, tNm (tSk (tDg (tTm (tNm (tSk (tLt t (sg t))) 0) 1))) 0) := by rw [hr]; unfold rdSale; rw [if_pos (show dgB (tTm (tNm (tSk (tLt t (sg t))) 0) 1) = true from hD), if_pos hI42, if_neg (show ¬ dgB (tNm (tSk (tDg (tTm (tNm (tSk (tLt t (sg t))) 0) 1))) 0) = true from hE)]
            rw [hr2] at hQ2
            exact hQ2 rfl _ (fU (fU (fU (fU (fU (fU (fU (fU f 15 (sg t)) 13 (tp t + 1)) 17 1) 13 (tp (tSk (tLt t (sg t))) + 1)) 16 (sg (tSk (tLt t (sg t))) - 48)) 13 (tp (tSk (tLt t (sg t))) + 1 + 1)) 14 1) 17 0) hm8 rfl rfl (fun i hi => by simp only [fU]; (repeat' rw [if_neg (by omega)])) hfr8
        · refine g_ret ?_
          refine g_if_eq_i (tgt := 92) (by decide) d_M_readsOrder_71 (by decide) (fun h71 => ?_) (fun h => absurd h (by decide))
          refine g_return rfl d_M_readsOrder_92 ?_
          have hr : rdOrder t = rdSale (tSk (tLt t (sg t))) := by unfold rdOrder; rw [if_pos (by assumption)]
          have hr2 : rdOrder t = (true, tDg (tTm (tNm (tSk (tLt t (sg t))) 0) 1)) := by rw [hr]; unfold rdSale; rw [if_pos (show dgB (tTm (tNm (tSk (tLt t (sg t))) 0) 1) = true from hD), if_neg (show ¬ sg (tDg (tTm (tNm (tSk (tLt t (sg t))) 0) 1)) = 42 from fun h => hI ⟨r14, by rw [show sg (tSk (tSk (tLt t (sg t)))) = 42 from h]; decide⟩)]
          rw [hr2] at hQ1
          exact hQ1 rfl _ (fU (fU (fU (fU (fU f 15 (sg t)) 13 (tp t + 1)) 17 1) 13 (tp (tSk (tLt t (sg t))) + 1)) 16 (sg (tSk (tLt t (sg t))) - 48)) hm5 r14 rfl rfl (show sg (tSk (tLt t (sg t))) - 48 = 0 * 10 + sg (tSk (tLt t (sg t))) - 48 by omega) (fun _ => rfl) (fun i hi => by simp only [fU]; (repeat' rw [if_neg (by omega)])) hfr5
      · refine g_ret ?_
        have h4 := hm4.2.1
        have hDf : dgB (tSk (tLt t (sg t))) = false := by
          rw [Bool.eq_false_iff]; exact fun h => hD ⟨r14, h⟩
        refine g_putA 9 16 62 (by omega) h4 f_M_219 (Or.inl rfl) (by rfl) (by rfl) (Nat.le_of_ble_eq_true rfl) d_M_readsOrder_60 (fun w h5 h5n => ?_)
        have k2 : g_cell E w im (gad E 62) _ := g_mut 62 (by omega) h5
        have hfr5 : ∀ j, j ≠ 62 → w j = _ := fun j hj => (h5n j hj).trans ((hw4 j hj).trans (hfr3 j hj))
        have hm5 : MR E w (fU (fU (fU (fU (fU f 15 (sg t)) 13 (tp t + 1)) 17 1) 14 1) 16 0) m := ⟨hn, h5, (hfr5 63 (by omega)).trans u3⟩
        have ht5 : MT E w (fU (fU (fU (fU (fU f 15 (sg t)) 13 (tp t + 1)) 17 1) 14 1) 16 0) m (tSk (tLt t (sg t))) := ht.mk (f' := fU (fU (fU (fU (fU f 15 (sg t)) 13 (tp t + 1)) 17 1) 14 1) 16 0) hm5 hfr5 rfl rfl rfl rfl (show 0 ≤ tp t + 1 ∧ tp t + 1 ≤ tl t by omega)
        refine g_aload_n (n := 0) (i := 0) rfl rfl d_M_readsOrder_63 ?_
        refine g_bipush_i (by decide) d_M_readsOrder_64 ?_
        refine g_bipush_i (by decide) d_M_readsOrder_66 ?_
        refine g_callV2 rfl rfl e_M_isAt l_M_212 iv_M_isAt 9 (by decide) rfl (by assumption) (by decide) (Nat.zero_le _) (Nat.zero_le _) (Nat.le_of_ble_eq_true rfl) d_M_readsOrder_68 (c_M_isAt (hQ1 := fun h _ => absurd (show (1 : Int) = 0 from h) (by decide)) ht5 (by omega) (by omega) (show 0 ≤ (1 : Int) ∧ (1 : Int) ≤ 1 by omega) (fun hI => ?_))
        refine g_ret ?_
        refine g_if_eq_i (tgt := 92) (by decide) d_M_readsOrder_71 (by decide) (fun h71 => ?_) (fun h => absurd h (by decide))
        refine g_return rfl d_M_readsOrder_92 ?_
        have hr : rdOrder t = rdSale (tSk (tLt t (sg t))) := by unfold rdOrder; rw [if_pos (by assumption)]
        have hr2 : rdOrder t = (false, tTm (tNm (tSk (tLt t (sg t))) 0) 1) := by rw [hr]; exact if_neg (by rw [show dgB (tTm (tNm (tSk (tLt t (sg t))) 0) 1) = dgB (tSk (tLt t (sg t))) from rfl, hDf]; exact Bool.false_ne_true)
        rw [hr2] at hQ2
        exact hQ2 rfl _ (fU (fU (fU (fU (fU f 15 (sg t)) 13 (tp t + 1)) 17 1) 14 1) 16 0) hm5 rfl rfl (fun i hi => by simp only [fU]; (repeat' rw [if_neg (by omega)])) hfr5
    · refine g_aload_n (n := 0) (i := 0) rfl rfl d_M_readsOrder_50 ?_
      refine g_callV0 rfl rfl e_M_readsNumber l_M_233 iv_M_readsNumber 9 (by decide) rfl (by assumption) (by decide) (Nat.zero_le _) (Nat.zero_le _) (Nat.le_of_ble_eq_true rfl) d_M_readsOrder_51 (c_M_readsNumber ht1 r14 (fun hD w f9 hm9 q14 q13 q16 qf hw9 => ?_) (fun hD w f9 hm9 q14 q13 qf hw9 => ?_))
      · refine g_retv ?_
        refine g_return rfl d_M_readsOrder_54 ?_
        have hr : rdOrder t = rdNum (tSk (tLt t (sg t))) := by unfold rdOrder; rw [if_neg (by assumption), if_pos (hL.resolve_left (by assumption))]
        first
        | (have hr2 : rdOrder t = (true, rdMore 3 (tDg (tNm (tSk (tLt t (sg t))) 0))) := by rw [hr]; exact if_pos hD
           rw [hr2] at hQ1
           exact hQ1 rfl _ f9 hm9 q14 q13 (by rw [show tc (true, rdMore 3 (tDg (tNm (tSk (tLt t (sg t))) 0))).2 = tc (rdMore 3 (tDg (tNm (tSk (tLt t (sg t))) 0))) from rfl, rdMore_tc]; exact qf 15 (by decide) (by decide)) q16 (fun h9 => absurd ((rdMore_tc (n := 3) (t := tDg (tNm (tSk (tLt t (sg t))) 0))).symm.trans h9) (by assumption)) (fun i hi => (qf i (by omega) (by omega)).trans ((fU_n (by omega)).trans ((fU_n (by omega)).trans (fU_n (by omega))))) (fun j hj => (hw9 j hj).trans (hfr3 j hj)))
        | (have hr2 : rdOrder t = (false, tNm (tSk (tLt t (sg t))) 0) := by rw [hr]; exact if_neg (by rw [show dgB (tNm (tSk (tLt t (sg t))) 0) = dgB (tSk (tLt t (sg t))) from rfl, hD]; exact Bool.false_ne_true)
           rw [hr2] at hQ2
           exact hQ2 rfl _ f9 hm9 q14 q13 (fun i hi => (qf i (by omega) (by omega) (by omega)).trans ((fU_n (by omega)).trans ((fU_n (by omega)).trans (fU_n (by omega))))) (fun j hj => (hw9 j hj).trans (hfr3 j hj)))
      · refine g_retv ?_
        refine g_return rfl d_M_readsOrder_54 ?_
        have hr : rdOrder t = rdNum (tSk (tLt t (sg t))) := by unfold rdOrder; rw [if_neg (by assumption), if_pos (hL.resolve_left (by assumption))]
        first
        | (have hr2 : rdOrder t = (true, rdMore 3 (tDg (tNm (tSk (tLt t (sg t))) 0))) := by rw [hr]; exact if_pos hD
           rw [hr2] at hQ1
           exact hQ1 rfl _ f9 hm9 q14 q13 (by rw [show tc (true, rdMore 3 (tDg (tNm (tSk (tLt t (sg t))) 0))).2 = tc (rdMore 3 (tDg (tNm (tSk (tLt t (sg t))) 0))) from rfl, rdMore_tc]; exact qf 15 (by decide) (by decide)) q16 (fun h9 => absurd ((rdMore_tc (n := 3) (t := tDg (tNm (tSk (tLt t (sg t))) 0))).symm.trans h9) (by assumption)) (fun i hi => (qf i (by omega) (by omega)).trans ((fU_n (by omega)).trans ((fU_n (by omega)).trans (fU_n (by omega))))) (fun j hj => (hw9 j hj).trans (hfr3 j hj)))
        | (have hr2 : rdOrder t = (false, tNm (tSk (tLt t (sg t))) 0) := by rw [hr]; exact if_neg (by rw [show dgB (tNm (tSk (tLt t (sg t))) 0) = dgB (tSk (tLt t (sg t))) from rfl, hD]; exact Bool.false_ne_true)
           rw [hr2] at hQ2
           exact hQ2 rfl _ f9 hm9 q14 q13 (fun i hi => (qf i (by omega) (by omega) (by omega)).trans ((fU_n (by omega)).trans ((fU_n (by omega)).trans (fU_n (by omega))))) (fun j hj => (hw9 j hj).trans (hfr3 j hj)))
  · refine g_ret ?_
    refine g_if_ne_i (tgt := 13) (by decide) d_M_readsOrder_4 (by decide) (fun h => absurd h (by decide)) (fun h4 => ?_)
    refine g_aload_n (n := 0) (i := 0) rfl rfl d_M_readsOrder_7 ?_
    refine g_iconst_i d_M_readsOrder_8 ?_
    refine g_putA 9 14 62 (by omega) u2 f_M_202 (Or.inl rfl) (by rfl) (by rfl) (Nat.le_of_ble_eq_true rfl) d_M_readsOrder_9 (fun w h1 h1n => ?_)
    have k2 : g_cell E w im (gad E 62) _ := g_mut 62 (by omega) h1
    refine g_return rfl d_M_readsOrder_12 ?_
    first
    | (exact hQ2 (by unfold rdOrder; rw [if_neg (fun h => hL (Or.inl h)), if_neg (fun h => hL (Or.inr h))]) _ (fU f 14 1) ⟨hn, h1, (h1n 63 (by omega)).trans u3⟩ rfl (by rw [show rdOrder t = (false, tLt t (sg t)) by unfold rdOrder; rw [if_neg (fun h => hL (Or.inl h)), if_neg (fun h => hL (Or.inr h))]]; exact y13) (fun i hi => fU_n (by omega)) h1n)

