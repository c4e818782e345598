/-! ===== the reference: read ===== -/
theorem cpy_back {tr m m' : Int → Int} (h1 : ∀ j : Int, 0 ≤ j ∧ j < 3561 → tr j = m j) (h2 : outZ m) (h3 : outZ m') : cpy tr m' 3561 = m := by
  funext j
  unfold cpy
  by_cases h : 0 ≤ j ∧ j < 3561
  · rw [if_pos h, h1 j h]
  · rw [if_neg h, h3 j (by omega), h2 j (by omega)]

theorem rdAll_ts {n : Nat} {t : Tx} : tl (rdAll n t).2 = tl t ∧ ts (rdAll n t).2 = ts t := by
  induction n generalizing t with
  | zero => exact ⟨rfl, rfl⟩
  | succ n ih =>
    rw [rdAll]
    have h := rdOrder_or (t := t)
    split
    · split
      · have := ih (t := tSk (tOr (rdOrder t).2 (to' (rdOrder t).2 + 1)))
        exact ⟨this.1.trans h.2.1, this.2.trans h.2.2⟩
      · exact ⟨h.2.1, h.2.2⟩
    · exact ⟨h.2.1, h.2.2⟩

theorem c_M_read {E : gE} {w : gW} {im : gIm} {Q : gQ} {f : Nat → Int} {m : Int → Int} (hm : MR E w f m) (ok : okM m) {R : Rz} (h : MZ m R) (oz : okZ R) {pa : Int → Int} (u4 : w 64 = intE 28488 pa) (u6 : ∃ tr, w 66 = intE 3561 tr) (r2 : 0 ≤ f 2 ∧ f 2 ≤ 8) {t : Tx} (y7 : w 67 = chE t) (y11 : f 11 = tl t) (yp0 : tp t = 0) (yo : to' t = 0) (yl : 0 ≤ tl t ∧ tl t ≤ 60) (ys : ∀ j, 0 ≤ j ∧ j < 60 → 0 ≤ ts t j ∧ ts t j ≤ 255) (hQ1 : (rdAll 60 t).1 ≠ -1 → ∀ w' f', MR E w' f' m → f' 6 = 1 → f' 8 = (rdAll 60 t).1 → f' 11 = 0 → (∀ i, i < 12 → i ≠ 6 → i ≠ 8 → i ≠ 11 → f' i = f i) → (∀ j, j ≠ 62 → w' j = w j) → Q (oV 0) w' im) (hQ2 : (rdAll 60 t).1 = -1 → (frO (to' (rdAll 60 t).2).toNat 0 (tP (rdAll 60 t).2 0) R).1 ≠ -1 → ∀ w' f', MR E w' f' m → f' 6 = 2 → f' 9 = (frO (to' (rdAll 60 t).2).toNat 0 (tP (rdAll 60 t).2 0) R).1 → f' 11 = 0 → (∀ i, i < 12 → i ≠ 6 → i ≠ 9 → i ≠ 11 → f' i = f i) → (∃ tr, w' 66 = intE 3561 tr) → (∀ j, j ≠ 62 → j ≠ 63 → j ≠ 66 → w' j = w j) → Q (oV 0) w' im) (hQ3 : (rdAll 60 t).1 = -1 → (frO (to' (rdAll 60 t).2).toNat 0 (tP (rdAll 60 t).2 0) R).1 = -1 → ∀ w' f' m' p', MR E w' f' m' → okM m' → MZ m' (frO (to' (rdAll 60 t).2).toNat 0 (tP (rdAll 60 t).2 0) R).2.2 → m' 4 = m 4 → f' 6 = 0 → f' 11 = 0 → f' 2 = nxM (f 2) → (∀ i, i < 12 → i ≠ 6 → i ≠ 11 → i ≠ 2 → f' i = f i) → w' 64 = intE 28488 p' → RM (f 2) pa m p' → (∃ tr, w' 66 = intE 3561 tr) → (∀ j, j ≠ 62 → j ≠ 63 → j ≠ 64 → j ≠ 66 → w' j = w j) → Q (oV (to' (rdAll 60 t).2)) w' im) : GM E 6 y_M_read m_M_read 0 0 [.ref (gad E 62)] w im Q := by
  obtain ⟨hn, u2, u3⟩ := id hm
  have k2 : g_cell E w im (gad E 62) _ := g_mut 62 (by omega) u2
  have k3 : g_cell E w im (gad E 63) _ := g_mut 63 (by omega) u3
  refine g_enter (by decide) rfl rfl (fun h => by first | rfl | cases h) (Nat.le_of_ble_eq_true rfl) rfl ?_
  refine g_aload_n (n := 0) (i := 0) rfl rfl d_M_read_0 ?_
  refine g_iconst_i d_M_read_1 ?_
  refine g_putA 9 6 62 (by omega) u2 f_M_33 (Or.inl rfl) (by rfl) (by rfl) (Nat.le_of_ble_eq_true rfl) d_M_read_2 (fun w h1 h1n => ?_)
  have k2 : g_cell E w im (gad E 62) _ := g_mut 62 (by omega) h1
  refine g_aload_n (n := 0) (i := 0) rfl rfl d_M_read_5 ?_
  refine g_aload_n (n := 0) (i := 0) rfl rfl d_M_read_6 ?_
  refine g_getfield 9 11 f_M_120 k2 (by rfl) d_M_read_7 ?_
  refine g_putA 9 12 62 (by omega) h1 f_M_209 (Or.inl rfl) (by rfl) (by rfl) (Nat.le_of_ble_eq_true rfl) d_M_read_10 (fun w h2 h2n => ?_)
  have k2 : g_cell E w im (gad E 62) _ := g_mut 62 (by omega) h2
  refine g_aload_n (n := 0) (i := 0) rfl rfl d_M_read_13 ?_
  refine g_iconst_i d_M_read_14 ?_
  refine g_putA 9 11 62 (by omega) h2 f_M_120 (Or.inl rfl) (by rfl) (by rfl) (Nat.le_of_ble_eq_true rfl) d_M_read_15 (fun w h3 h3n => ?_)
  have k2 : g_cell E w im (gad E 62) _ := g_mut 62 (by omega) h3
  have hfr3 : ∀ j, j ≠ 62 → w j = _ := fun j hj => (h3n j hj).trans ((h2n j hj).trans (h1n j hj))
  have hm : MR E w (fU (fU (fU f 6 0) 12 (f 11)) 11 0) m := ⟨hn, h3, (hfr3 63 (by omega)).trans u3⟩
  have y7 := (hfr3 67 (by omega)).trans y7
  have u4 := (hfr3 64 (by omega)).trans u4
  have u6 : ∃ tr, w 66 = intE 3561 tr := by obtain ⟨tr, u6⟩ := u6; exact ⟨tr, (hfr3 66 (by omega)).trans u6⟩
  refine g_aload_n (n := 0) (i := 0) rfl rfl d_M_read_18 ?_
  refine g_iconst_i d_M_read_19 ?_
  refine g_callV1 rfl rfl e_M_orders l_M_245 iv_M_orders 9 (by decide) rfl (by assumption) (by decide) (Nat.zero_le _) (Nat.zero_le _) (Nat.le_of_ble_eq_true rfl) d_M_read_20 (c_M_orders0 hm y7 (show (fU (fU (fU f 6 0) 12 (f 11)) 11 0) 12 = tl t from y11) yp0 yo yl ys (fun hA w f4 hm4 q14 qf4 hw4 => ?_) (fun hA w f4 v4 hm4 q14 q13 qf4 hw4 => ?_))
  · refine g_ret ?_
    have hn := hm4.1
    have k2 : g_cell E w im (gad E 62) _ := g_mut 62 (by omega) hm4.2.1
    refine g_istore_n (n := 1) (i := 1) rfl (by decide) rfl d_M_read_23 ?_
    refine g_aload_n (n := 0) (i := 0) rfl rfl d_M_read_24 ?_
    refine g_getfield 9 14 f_M_202 k2 (by rfl) d_M_read_25 ?_
    rw [q14]
    refine g_if_eq_i (tgt := 45) (by decide) d_M_read_28 (by decide) (fun h28 => ?_) (fun h => absurd h (by decide))
    have u64 : ∃ tr, w 66 = intE 3561 tr := by obtain ⟨tr, u6⟩ := u6; exact ⟨tr, (hw4 66 (by omega)).trans u6⟩
    obtain ⟨trq, u64⟩ := u64
    refine g_aload_n (n := 0) (i := 0) rfl rfl d_M_read_45 ?_
    refine g_callV0 rfl rfl e_M_keepTried l_M_39 iv_M_keepTried 9 (by decide) rfl (by assumption) (by decide) (Nat.zero_le _) (Nat.zero_le _) (Nat.le_of_ble_eq_true rfl) d_M_read_46 (c_M_keepTried hm4 u64 (fun w tr6 hs6 ht6 hw6 => ?_))
    refine g_retv ?_
    have hm6 : MR E w f4 m := ⟨hn, (hw6 62 (by omega)).trans hm4.2.1, (hw6 63 (by omega)).trans hm4.2.2⟩
    have k2 : g_cell E w im (gad E 62) _ := g_mut 62 (by omega) hm6.2.1
    have y76 := (hw6 67 (by omega)).trans ((hw4 67 (by omega)).trans y7)
    refine g_aload_n (n := 0) (i := 0) rfl rfl d_M_read_49 ?_
    refine g_iconst_i d_M_read_50 ?_
    refine g_callV1 rfl rfl e_M_orders l_M_245 iv_M_orders 9 (by decide) rfl (by assumption) (by decide) (Nat.zero_le _) (Nat.zero_le _) (Nat.le_of_ble_eq_true rfl) d_M_read_51 (c_M_orders1 hm6 ok h oz y76 ((qf4 12 (by omega)).trans y11) yp0 yo yl ys (show rdAll 60 t = (-1, (rdAll 60 t).2) from Prod.ext hA rfl) rdAll_ts (fun hB w f7 m7 v7 v70 v71 hm7 ok7 h7 e74 qf7 hw7 => ?_) (fun hB hBr w f7 m7 hm7 o7 qf7 hw7 => ?_))
    · refine g_ret ?_
      have hn := hm7.1
      have k2 : g_cell E w im (gad E 62) _ := g_mut 62 (by omega) hm7.2.1
      refine g_istore_n (n := 2) (i := 2) rfl (by decide) rfl d_M_read_54 ?_
      refine g_iload_n (n := 2) (i := 2) rfl rfl d_M_read_55 ?_
      refine g_if_ge_i (tgt := 101) (by omega) d_M_read_56 (by decide) (fun h56 => ?_) (fun h => by exfalso; omega)
      refine g_aload_n (n := 0) (i := 0) rfl rfl d_M_read_101 ?_
      refine g_callV0 rfl rfl e_M_remember l_M_42 iv_M_remember 9 (by decide) rfl (by assumption) (by decide) (Nat.zero_le _) (Nat.zero_le _) (Nat.le_of_ble_eq_true rfl) d_M_read_102 (c_M_remember (pa := pa) (tr := tr6) hm7 ((hw7 64 (by omega) (by omega)).trans ((hw6 64 (by omega)).trans ((hw4 64 (by omega)).trans u4))) ((hw7 66 (by omega) (by omega)).trans hs6) (by rw [qf7 2 (by omega), qf4 2 (by omega)]; exact r2) (fun h8 w _ p0 p' hp0 a1 a2 a3 a4 => ?_) (fun h8 w p' a1 a2 a3 a4 => ?_))
      · refine g_retv ?_
        refine g_iload_n (n := 1) (i := 1) rfl rfl d_M_read_105 ?_
        refine g_ireturn_i rfl d_M_read_106 ?_
        have q72 : f7 2 = f 2 := (qf7 2 (by omega)).trans (qf4 2 (by omega))
        have hRM : RM (f 2) pa m p' := by
          rw [← q72]; exact rm_8 h8 hp0 a4 ht6
        have hq2 : (fU (fU f7 2 (f7 2 - 1)) 2 (fU f7 2 (f7 2 - 1) 2 + 1)) 2 = nxM (f 2) := by rw [← q72]; rw [fU_s, fU_s, h8]; rfl
        exact hQ3 hA hB w (fU (fU f7 2 (f7 2 - 1)) 2 (fU f7 2 (f7 2 - 1) 2 + 1)) m7 p' ⟨hn, a1, (a3 63 (by omega) (by omega)).trans hm7.2.2⟩ ok7 h7 e74 ((fU_n (by decide)).trans ((fU_n (by decide)).trans ((qf7 6 (by omega)).trans (qf4 6 (by omega))))) ((fU_n (by decide)).trans ((fU_n (by decide)).trans ((qf7 11 (by omega)).trans (qf4 11 (by omega))))) hq2 (fun i hi h6 h11 h2 => (fU_n h2).trans ((fU_n h2).trans ((qf7 i (by omega)).trans ((qf4 i (by omega)).trans ((fU_n h11).trans ((fU_n (by omega)).trans (fU_n h6))))))) a2 hRM ⟨tr6, (a3 66 (by omega) (by omega)).trans ((hw7 66 (by omega) (by omega)).trans hs6)⟩ (fun j h1 h2 h3 h4 => (a3 j h1 h3).trans ((hw7 j h1 h2).trans ((hw6 j h4).trans ((hw4 j h1).trans (hfr3 j h1)))))
      · refine g_retv ?_
        refine g_iload_n (n := 1) (i := 1) rfl rfl d_M_read_105 ?_
        refine g_ireturn_i rfl d_M_read_106 ?_
        have q72 : f7 2 = f 2 := (qf7 2 (by omega)).trans (qf4 2 (by omega))
        have hRM : RM (f 2) pa m p' := by
          rw [← q72]; exact rm_n h8 a4 ht6
        have hq2 : (fU f7 2 (f7 2 + 1)) 2 = nxM (f 2) := by rw [← q72]; rw [fU_s]; exact (if_neg h8).symm
        exact hQ3 hA hB w (fU f7 2 (f7 2 + 1)) m7 p' ⟨hn, a1, (a3 63 (by omega) (by omega)).trans hm7.2.2⟩ ok7 h7 e74 ((fU_n (by decide)).trans (((qf7 6 (by omega)).trans (qf4 6 (by omega))))) ((fU_n (by decide)).trans (((qf7 11 (by omega)).trans (qf4 11 (by omega))))) hq2 (fun i hi h6 h11 h2 => (fU_n h2).trans (((qf7 i (by omega)).trans ((qf4 i (by omega)).trans ((fU_n h11).trans ((fU_n (by omega)).trans (fU_n h6))))))) a2 hRM ⟨tr6, (a3 66 (by omega) (by omega)).trans ((hw7 66 (by omega) (by omega)).trans hs6)⟩ (fun j h1 h2 h3 h4 => (a3 j h1 h3).trans ((hw7 j h1 h2).trans ((hw6 j h4).trans ((hw4 j h1).trans (hfr3 j h1)))))
    · refine g_ret ?_
      have hn := hm7.1
      have k2 : g_cell E w im (gad E 62) _ := g_mut 62 (by omega) hm7.2.1
      refine g_istore_n (n := 2) (i := 2) rfl (by decide) rfl d_M_read_54 ?_
      have hs66 := (hw7 66 (by omega) (by omega)).trans hs6
      have loop : ∀ (n9 : Nat) (k9 : Int) (w1 : gW), 0 ≤ k9 → k9 + n9 = 3561 → MS E w f7 (cpy tr6 m7 k9) w1 → G E 6 m_M_read 61 [(0, .ref (gad E 62)), (1, .int (iI (to' (rdAll 60 t).2))), (2, .int (iI ((frO (to' (rdAll 60 t).2).toNat 0 (tP (rdAll 60 t).2 0) R).1 - 1000))), (3, .int (iI k9))] [] w1 im 0 0 Q := by
        intro n9
        induction n9 with
        | zero =>
          intro k9 w h9 hk9 hS
          have e9 : k9 = 3561 := by omega
          rw [e9, cpy_back ht6 h.out o7] at hS
          obtain ⟨hm8, hw8⟩ := id hS
          have k2 : g_cell E w im (gad E 62) _ := g_mut 62 (by omega) hm8.2.1
          have k3 : g_cell E w im (gad E 63) _ := g_mut 63 (by omega) hm8.2.2
          have k6 : g_cell E w im (gad E 66) _ := g_mut 66 (by omega) ((hw8 66 (by omega)).trans hs66)
          refine g_iload_n (n := 3) (i := 3) rfl rfl d_M_read_61 ?_
          refine g_sipush_i (by decide) d_M_read_62 ?_
          refine g_icmp_ge_i (tgt := 86) (by omega) (by decide) d_M_read_65 (by decide) (fun h65 => ?_) (fun h => by exfalso; omega)
          refine g_aload_n (n := 0) (i := 0) rfl rfl d_M_read_86 ?_
          refine g_iload_n (n := 2) (i := 2) rfl rfl d_M_read_87 ?_
          refine g_sipush_i (by decide) d_M_read_88 ?_
          refine g_iadd_i d_M_read_91 ?_
          refine g_putA 9 9 62 (by omega) hm8.2.1 f_M_26 (Or.inl rfl) (by rfl) (by rfl) (Nat.le_of_ble_eq_true rfl) d_M_read_92 (fun w h5 h5n => ?_)
          have k2 : g_cell E w im (gad E 62) _ := g_mut 62 (by omega) h5
          have hm9 : MR E w (fU f7 9 ((frO (to' (rdAll 60 t).2).toNat 0 (tP (rdAll 60 t).2 0) R).1 - 1000 + 1000)) m := ⟨hn, h5, (h5n 63 (by omega)).trans hm8.2.2⟩
          refine g_aload_n (n := 0) (i := 0) rfl rfl d_M_read_95 ?_
          refine g_iconst_i d_M_read_96 ?_
          refine g_callV1 rfl rfl e_M_fail l_M_52 iv_M_fail 9 (by decide) rfl (by assumption) (by decide) (Nat.zero_le _) (Nat.zero_le _) (Nat.le_of_ble_eq_true rfl) d_M_read_97 (c_M_fail hm9 (fun w hF => ?_))
          refine g_ret ?_
          refine g_ireturn_i rfl d_M_read_100 ?_
          obtain ⟨f8, a8, b8, c8, d8⟩ := hF
          exact hQ2 hA hB w f8 a8 b8 ((c8 9 (by decide)).trans (fU_s.trans (by omega))) ((c8 11 (by decide)).trans ((fU_n (by decide)).trans ((qf7 11 (by omega)).trans (qf4 11 (by omega))))) (fun i hi h6 h9 h11 => (c8 i h6).trans ((fU_n h9).trans ((qf7 i (by omega)).trans ((qf4 i (by omega)).trans ((fU_n h11).trans ((fU_n (by omega)).trans (fU_n h6))))))) ⟨tr6, (d8 66 (by omega)).trans ((h5n 66 (by omega)).trans ((hw8 66 (by omega)).trans hs66))⟩ (fun j h1 h2 h3 => (d8 j h1).trans ((h5n j h1).trans ((hw8 j h2).trans ((hw7 j h1 h2).trans ((hw6 j h3).trans ((hw4 j h1).trans (hfr3 j h1)))))))
        | succ n9 ih =>
          intro k9 w h9 hk9 hS
          obtain ⟨hm8, hw8⟩ := id hS
          have k2 : g_cell E w im (gad E 62) _ := g_mut 62 (by omega) hm8.2.1
          have k3 : g_cell E w im (gad E 63) _ := g_mut 63 (by omega) hm8.2.2
          have k6 : g_cell E w im (gad E 66) _ := g_mut 66 (by omega) ((hw8 66 (by omega)).trans hs66)
          refine g_iload_n (n := 3) (i := 3) rfl rfl d_M_read_61 ?_
          refine g_sipush_i (by decide) d_M_read_62 ?_
          refine g_icmp_ge_i (tgt := 86) (by omega) (by decide) d_M_read_65 (by decide) (fun h => by exfalso; omega) (fun h65 => ?_)
          refine g_aload_n (n := 0) (i := 0) rfl rfl d_M_read_68 ?_
          refine g_getfield 9 0 f_M_9 (by assumption) (by rfl) d_M_read_69 ?_
          refine g_iload_n (n := 3) (i := 3) rfl rfl d_M_read_72 ?_
          refine g_aload_n (n := 0) (i := 0) rfl rfl d_M_read_73 ?_
          refine g_getfield 9 5 f_M_19 (by assumption) (by rfl) d_M_read_74 ?_
          refine g_iload_n (n := 3) (i := 3) rfl rfl d_M_read_77 ?_
          refine g_iaload_i (by assumption) (by omega) (by omega) (by rfl) d_M_read_78 ?_
          refine g_iastoreA 63 (by omega) hm8.2.2 (by omega) (by omega) (by rfl) d_M_read_79 (fun w hs hn9 => ?_)
          have hS := hS.trans (hm8.row hs hn9)
          rw [cpy_s (s := tr6) h9] at hS
          refine g_iinc_i (i := 3) rfl (by decide) rfl d_M_read_80 ?_
          refine g_goto (tgt := 61) (by decide) d_M_read_83 ?_
          exact g_cut (lv' := [(0, .ref (gad E 62)), (1, .int (iI (to' (rdAll 60 t).2))), (2, .int (iI ((frO (to' (rdAll 60 t).2).toNat 0 (tP (rdAll 60 t).2 0) R).1 - 1000))), (3, .int (iI (k9 + 1)))]) ⟨rfl, rfl, rfl, rfl, trivial⟩ (ih (k9 + 1) w (by omega) (by omega) hS)
      refine g_iload_n (n := 2) (i := 2) rfl rfl d_M_read_55 ?_
      refine g_if_ge_i (tgt := 101) (by omega) d_M_read_56 (by decide) (fun h => by exfalso; omega) (fun h56 => ?_)
      refine g_iconst_i d_M_read_59 ?_
      refine g_istore_n (n := 3) (i := 3) rfl (by decide) rfl d_M_read_60 ?_
      exact g_cut (lv' := [(0, .ref (gad E 62)), (1, .int (iI (to' (rdAll 60 t).2))), (2, .int (iI ((frO (to' (rdAll 60 t).2).toNat 0 (tP (rdAll 60 t).2 0) R).1 - 1000))), (3, .int (iI 0))]) ⟨rfl, rfl, rfl, rfl, trivial⟩ (loop 3561 0 w (by omega) (by omega) (by rw [cpy_0]; exact ⟨hm7, fun _ _ => rfl⟩))
  · refine g_ret ?_
    have hn := hm4.1
    have k2 : g_cell E w im (gad E 62) _ := g_mut 62 (by omega) hm4.2.1
    refine g_istore_n (n := 1) (i := 1) rfl (by decide) rfl d_M_read_23 ?_
    refine g_aload_n (n := 0) (i := 0) rfl rfl d_M_read_24 ?_
    refine g_getfield 9 14 f_M_202 k2 (by rfl) d_M_read_25 ?_
    rw [q14]
    refine g_if_eq_i (tgt := 45) (by decide) d_M_read_28 (by decide) (fun h => absurd h (by decide)) (fun h28 => ?_)
    refine g_aload_n (n := 0) (i := 0) rfl rfl d_M_read_31 ?_
    refine g_aload_n (n := 0) (i := 0) rfl rfl d_M_read_32 ?_
    refine g_getfield 9 13 f_M_206 k2 (by rfl) d_M_read_33 ?_
    rw [q13]
    refine g_putA 9 8 62 (by omega) hm4.2.1 f_M_22 (Or.inl rfl) (by rfl) (by rfl) (Nat.le_of_ble_eq_true rfl) d_M_read_36 (fun w h5 h5n => ?_)
    have k2 : g_cell E w im (gad E 62) _ := g_mut 62 (by omega) h5
    have hm5 : MR E w (fU f4 8 ((rdAll 60 t).1)) m := ⟨hn, h5, (h5n 63 (by omega)).trans hm4.2.2⟩
    refine g_aload_n (n := 0) (i := 0) rfl rfl d_M_read_39 ?_
    refine g_iconst_i d_M_read_40 ?_
    refine g_callV1 rfl rfl e_M_fail l_M_52 iv_M_fail 9 (by decide) rfl (by assumption) (by decide) (Nat.zero_le _) (Nat.zero_le _) (Nat.le_of_ble_eq_true rfl) d_M_read_41 (c_M_fail hm5 (fun w hF => ?_))
    refine g_ret ?_
    refine g_ireturn_i rfl d_M_read_44 ?_
    obtain ⟨f8, a8, b8, c8, d8⟩ := hF
    exact hQ1 hA w f8 a8 b8 ((c8 8 (by decide)).trans fU_s) ((c8 11 (by decide)).trans ((fU_n (by decide)).trans (qf4 11 (by omega)))) (fun i hi h6 h8 h11 => (c8 i h6).trans ((fU_n h8).trans ((qf4 i (by omega)).trans ((fU_n h11).trans ((fU_n (by omega)).trans (fU_n h6)))))) (fun j h1 => (d8 j h1).trans ((h5n j h1).trans ((hw4 j h1).trans (hfr3 j h1))))

