/-! ===== the reference: undo, snapshot, restore ===== -/

theorem c_M_undo {E : gE} {w : gW} {im : gIm} {Q : gQ} {f : Nat → Int} {m : Int → Int} (hm : MR E w f m) {pa : Int → Int} (u4 : w 64 = intE 28488 pa) (r2 : 0 ≤ f 2 ∧ f 2 ≤ 8) (hQ1 : f 2 = 0 → ∀ w', MTh E w f m 1 w' → Q (oV 0) w' im) (hQ2 : f 2 ≠ 0 → ∀ w', MR E w' (fU (fU f 6 0) 2 (f 2 - 1)) (cpy (fun j => pa (3561 * (f 2 - 1) + j)) m 3561) → (∀ j, j ≠ 62 → j ≠ 63 → w' j = w j) → Q (oV (f 2 - 1)) w' im) : GM E 1 y_M_undo m_M_undo 0 0 [.ref (gad E 62)] w im Q := by
  obtain ⟨hn, u2, u3⟩ := id hm
  have k2 : g_cell E w im (gad E 62) _ := g_mut 62 (by omega) u2
  have k3 : g_cell E w im (gad E 63) _ := g_mut 63 (by omega) u3
  refine g_enter (by decide) rfl rfl (fun h => by first | rfl | cases h) (Nat.le_of_ble_eq_true rfl) rfl ?_
  refine g_aload_n (n := 0) (i := 0) rfl rfl d_M_undo_0 ?_
  refine g_iconst_i d_M_undo_1 ?_
  refine g_putA 9 6 62 (by omega) u2 f_M_33 (Or.inl rfl) (by rfl) (by rfl) (Nat.le_of_ble_eq_true rfl) d_M_undo_2 (fun w hs hn9 => ?_)
  have hth := hm.th (t := 0) hs hn9
  have hm0 := hm
  have hm := hth.1
  obtain ⟨hn, u2, u3⟩ := id hm
  have k2 : g_cell E w im (gad E 62) _ := g_mut 62 (by omega) u2
  have k3 : g_cell E w im (gad E 63) _ := g_mut 63 (by omega) u3
  refine g_aload_n (n := 0) (i := 0) rfl rfl d_M_undo_5 ?_
  refine g_getfield 9 2 f_M_36 k2 (by rfl) d_M_undo_6 ?_
  rw [hth.2.2 2 (by decide)]
  refine g_if_ne_i (tgt := 18) (by omega) d_M_undo_9 (by decide) (fun h9 => ?_) (fun h9 => ?_)
  · refine g_aload_n (n := 0) (i := 0) rfl rfl d_M_undo_18 ?_
    refine g_dup rfl d_M_undo_19 ?_
    refine g_getfield 9 2 f_M_36 k2 (by rfl) d_M_undo_20 ?_
    rw [hth.2.2 2 (by decide)]
    refine g_iconst_i d_M_undo_23 ?_
    refine g_isub_i d_M_undo_24 ?_
    refine g_putA 9 2 62 (by omega) u2 f_M_36 (Or.inl rfl) (by rfl) (by rfl) (Nat.le_of_ble_eq_true rfl) d_M_undo_25 (fun w hs hn99 => ?_)
    have hm : MR E w (fU (fU f 6 0) 2 (f 2 - 1)) m := ⟨hn, hs, (hn99 63 (by omega)).trans u3⟩
    obtain ⟨hn, u2, u3⟩ := id hm
    have k2 : g_cell E w im (gad E 62) _ := g_mut 62 (by omega) u2
    have k3 : g_cell E w im (gad E 63) _ := g_mut 63 (by omega) u3
    have h0 : f 2 ≠ 0 := by omega
    have hfr : ∀ j, j ≠ 62 → w j = _ := fun j hj => (hn99 j hj).trans (hn9 j hj)
    have u4 := (hfr 64 (by omega)).trans u4
    have loop : ∀ (n9 : Nat) (k9 : Int) (w1 : gW), 0 ≤ k9 → k9 + n9 = 3561 → MS E w (fU (fU f 6 0) 2 (f 2 - 1)) (cpy (fun j => pa (3561 * (f 2 - 1) + j)) m k9) w1 → G E 1 m_M_undo 30 [(0, .ref (gad E 62)), (1, .int (iI k9))] [] w1 im 0 0 Q := by
      intro n9
      induction n9 with
      | zero =>
        intro k9 w h9 hk9 hS
        have e9 : k9 = 3561 := by omega
        rw [e9] at hS
        obtain ⟨hm, hw9⟩ := id hS
        obtain ⟨hn, u2, u3⟩ := id hm
        have k2 : g_cell E w im (gad E 62) _ := g_mut 62 (by omega) u2
        have k3 : g_cell E w im (gad E 63) _ := g_mut 63 (by omega) u3
        refine g_iload_n (n := 1) (i := 1) rfl rfl d_M_undo_30 ?_
        refine g_sipush_i (by decide) d_M_undo_31 ?_
        refine g_icmp_ge_i (tgt := 64) (by omega) (by decide) d_M_undo_34 (by decide) (fun h34 => ?_) (fun h => by exfalso; omega)
        refine g_aload_n (n := 0) (i := 0) rfl rfl d_M_undo_64 ?_
        refine g_getfield 9 2 f_M_36 k2 (by rfl) d_M_undo_65 ?_
        rw [fU_s]
        refine g_ireturn_i rfl d_M_undo_68 ?_
        exact hQ2 h0 _ hm (fun j h1 h2 => (hS.2 j h2).trans (hfr j h1))
      | succ n9 ih =>
        intro k9 w h9 hk9 hS
        obtain ⟨hm, hw9⟩ := id hS
        obtain ⟨hn, u2, u3⟩ := id hm
        have k2 : g_cell E w im (gad E 62) _ := g_mut 62 (by omega) u2
        have k3 : g_cell E w im (gad E 63) _ := g_mut 63 (by omega) u3
        have k4 : g_cell E w im (gad E 64) _ := g_mut 64 (by omega) ((hS.2 64 (by omega)).trans u4)
        refine g_iload_n (n := 1) (i := 1) rfl rfl d_M_undo_30 ?_
        refine g_sipush_i (by decide) d_M_undo_31 ?_
        refine g_icmp_ge_i (tgt := 64) (by omega) (by decide) d_M_undo_34 (by decide) (fun h => by exfalso; omega) (fun h34 => ?_)
        refine g_aload_n (n := 0) (i := 0) rfl rfl d_M_undo_37 ?_
        refine g_getfield 9 0 f_M_9 (by assumption) (by rfl) d_M_undo_38 ?_
        refine g_iload_n (n := 1) (i := 1) rfl rfl d_M_undo_41 ?_
        refine g_aload_n (n := 0) (i := 0) rfl rfl d_M_undo_42 ?_
        refine g_getfield 9 1 f_M_13 (by assumption) (by rfl) d_M_undo_43 ?_
        refine g_sipush_i (by decide) d_M_undo_46 ?_
        refine g_aload_n (n := 0) (i := 0) rfl rfl d_M_undo_49 ?_
        refine g_getfield 9 2 f_M_36 k2 (by rfl) d_M_undo_50 ?_
        rw [fU_s]
        refine g_imul_i d_M_undo_53 ?_
        refine g_iload_n (n := 1) (i := 1) rfl rfl d_M_undo_54 ?_
        refine g_iadd_i d_M_undo_55 ?_
        refine g_iaload_i (by assumption) (by omega) (by omega) (by rfl) d_M_undo_56 ?_
        refine g_iastoreA 63 (by omega) u3 (by omega) (by omega) (by rfl) d_M_undo_57 (fun w hs hn9 => ?_)
        have hS := hS.trans (hm.row hs hn9)
        rw [cpy_s (s := (fun j => pa (3561 * (f 2 - 1) + j))) h9] at hS
        refine g_iinc_i (i := 1) rfl (by decide) rfl d_M_undo_58 ?_
        refine g_goto (tgt := 30) (by decide) d_M_undo_61 ?_
        exact g_cut (lv' := [(0, .ref (gad E 62)), (1, .int (iI (k9 + 1)))]) ⟨rfl, rfl, trivial⟩ (ih (k9 + 1) w (by omega) (by omega) hS)
    refine g_iconst_i d_M_undo_28 ?_
    refine g_istore_n (n := 1) (i := 1) rfl (by decide) rfl d_M_undo_29 ?_
    refine g_cut ?_ (loop 3561 0 w (by omega) (by omega) (by rw [cpy_0]; exact ⟨hm, fun _ _ => rfl⟩))
    exact ⟨rfl, rfl, trivial⟩
  · refine g_aload_n (n := 0) (i := 0) rfl rfl d_M_undo_12 ?_
    refine g_iconst_i d_M_undo_13 ?_
    refine g_callV1 rfl rfl e_M_fail l_M_52 iv_M_fail 9 (by decide) rfl (by assumption) (by decide) (Nat.zero_le _) (Nat.zero_le _) (Nat.le_of_ble_eq_true rfl) d_M_undo_14 (c_M_fail hm (fun w hF => ?_))
    refine g_ret ?_
    refine g_ireturn_i rfl d_M_undo_17 ?_
    exact hQ1 (by omega) _ (MTh.trans hth.2.2 hn9 hF)

theorem c_M_snapshot {E : gE} {w : gW} {im : gIm} {Q : gQ} {f : Nat → Int} {m : Int → Int} (hm : MR E w f m) {sv : Int → Int} (u5 : w 65 = intE 3561 sv) (hQ : ∀ w', MR E w' (fU (fU f 6 0) 4 1) m → w' 65 = intE 3561 (cpy m sv 3561) → (∀ j, j ≠ 62 → j ≠ 65 → w' j = w j) → Q (oV (m 3)) w' im) : GM E 0 y_M_snapshot m_M_snapshot 0 0 [.ref (gad E 62)] w im Q := by
  obtain ⟨hn, u2, u3⟩ := id hm
  have k2 : g_cell E w im (gad E 62) _ := g_mut 62 (by omega) u2
  have k3 : g_cell E w im (gad E 63) _ := g_mut 63 (by omega) u3
  refine g_enter (by decide) rfl rfl (fun h => by first | rfl | cases h) (Nat.le_of_ble_eq_true rfl) rfl ?_
  refine g_aload_n (n := 0) (i := 0) rfl rfl d_M_snapshot_0 ?_
  refine g_iconst_i d_M_snapshot_1 ?_
  refine g_putA 9 6 62 (by omega) u2 f_M_33 (Or.inl rfl) (by rfl) (by rfl) (Nat.le_of_ble_eq_true rfl) d_M_snapshot_2 (fun w hs hn9 => ?_)
  have hth := hm.th (t := 0) hs hn9
  have hm0 := hm
  have hm := hth.1
  obtain ⟨hn, u2, u3⟩ := id hm
  have k2 : g_cell E w im (gad E 62) _ := g_mut 62 (by omega) u2
  have k3 : g_cell E w im (gad E 63) _ := g_mut 63 (by omega) u3
  refine g_aload_n (n := 0) (i := 0) rfl rfl d_M_snapshot_5 ?_
  refine g_iconst_i d_M_snapshot_6 ?_
  refine g_putA 9 4 62 (by omega) u2 f_M_249 (Or.inl rfl) (by rfl) (by rfl) (Nat.le_of_ble_eq_true rfl) d_M_snapshot_7 (fun w hs hn99 => ?_)
  have hm : MR E w (fU (fU f 6 0) 4 1) m := ⟨hn, hs, (hn99 63 (by omega)).trans u3⟩
  obtain ⟨hn, u2, u3⟩ := id hm
  have k2 : g_cell E w im (gad E 62) _ := g_mut 62 (by omega) u2
  have k3 : g_cell E w im (gad E 63) _ := g_mut 63 (by omega) u3
  have hfr : ∀ j, j ≠ 62 → w j = _ := fun j hj => (hn99 j hj).trans (hn9 j hj)
  have u5 := (hfr 65 (by omega)).trans u5
  have loop : ∀ (n9 : Nat) (k9 : Int) (w1 : gW), 0 ≤ k9 → k9 + n9 = 3561 → w1 65 = intE 3561 (cpy m sv k9) → (∀ j, j ≠ 65 → w1 j = w j) → G E 0 m_M_snapshot 12 [(0, .ref (gad E 62)), (1, .int (iI k9))] [] w1 im 0 0 Q := by
    intro n9
    induction n9 with
    | zero =>
      intro k9 w1 h9 hk9 hS hw
      have e9 : k9 = 3561 := by omega
      rw [e9] at hS
      have hm : MR E w1 (fU (fU f 6 0) 4 1) m := ⟨hn, (hw 62 (by omega)).trans u2, (hw 63 (by omega)).trans u3⟩
      have k2 : g_cell E w1 im (gad E 62) _ := g_mut 62 (by omega) hm.2.1
      have k3 : g_cell E w1 im (gad E 63) _ := g_mut 63 (by omega) hm.2.2
      refine g_iload_n (n := 1) (i := 1) rfl rfl d_M_snapshot_12 ?_
      refine g_sipush_i (by decide) d_M_snapshot_13 ?_
      refine g_icmp_ge_i (tgt := 37) (by omega) (by decide) d_M_snapshot_16 (by decide) (fun h16 => ?_) (fun h => by exfalso; omega)
      refine g_aload_n (n := 0) (i := 0) rfl rfl d_M_snapshot_37 ?_
      refine g_getfield 9 0 f_M_9 (by assumption) (by rfl) d_M_snapshot_38 ?_
      refine g_iconst_i d_M_snapshot_41 ?_
      refine g_iaload_i (by assumption) (by omega) (by omega) (by rfl) d_M_snapshot_42 ?_
      refine g_ireturn_i rfl d_M_snapshot_43 ?_
      exact hQ _ hm hS (fun j h1 h2 => (hw j h2).trans (hfr j h1))
    | succ n9 ih =>
      intro k9 w1 h9 hk9 hS hw
      have hm : MR E w1 (fU (fU f 6 0) 4 1) m := ⟨hn, (hw 62 (by omega)).trans u2, (hw 63 (by omega)).trans u3⟩
      have k2 : g_cell E w1 im (gad E 62) _ := g_mut 62 (by omega) hm.2.1
      have k3 : g_cell E w1 im (gad E 63) _ := g_mut 63 (by omega) hm.2.2
      refine g_iload_n (n := 1) (i := 1) rfl rfl d_M_snapshot_12 ?_
      refine g_sipush_i (by decide) d_M_snapshot_13 ?_
      refine g_icmp_ge_i (tgt := 37) (by omega) (by decide) d_M_snapshot_16 (by decide) (fun h => by exfalso; omega) (fun h16 => ?_)
      refine g_aload_n (n := 0) (i := 0) rfl rfl d_M_snapshot_19 ?_
      refine g_getfield 9 3 f_M_16 (by assumption) (by rfl) d_M_snapshot_20 ?_
      refine g_iload_n (n := 1) (i := 1) rfl rfl d_M_snapshot_23 ?_
      refine g_aload_n (n := 0) (i := 0) rfl rfl d_M_snapshot_24 ?_
      refine g_getfield 9 0 f_M_9 (by assumption) (by rfl) d_M_snapshot_25 ?_
      refine g_iload_n (n := 1) (i := 1) rfl rfl d_M_snapshot_28 ?_
      refine g_iaload_i (by assumption) (by omega) (by omega) (by rfl) d_M_snapshot_29 ?_
      refine g_iastoreA 65 (by omega) hS (by omega) (by omega) (by rfl) d_M_snapshot_30 (fun w2 hs hn8 => ?_)
      rw [show (fun j : Nat => iI (uI (cpy m sv k9) k9 (m k9) j)) = fun j : Nat => iI (cpy m sv (k9 + 1) j) by rw [cpy_s h9]] at hs
      refine g_iinc_i (i := 1) rfl (by decide) rfl d_M_snapshot_31 ?_
      refine g_goto (tgt := 12) (by decide) d_M_snapshot_34 ?_
      exact g_cut (lv' := [(0, .ref (gad E 62)), (1, .int (iI (k9 + 1)))]) ⟨rfl, rfl, trivial⟩ (ih (k9 + 1) w2 (by omega) (by omega) hs (fun j hj => (hn8 j hj).trans (hw j hj)))
  refine g_iconst_i d_M_snapshot_10 ?_
  refine g_istore_n (n := 1) (i := 1) rfl (by decide) rfl d_M_snapshot_11 ?_
  refine g_cut ?_ (loop 3561 0 w (by omega) (by omega) (by rw [cpy_0]; exact u5) (fun _ _ => rfl))
  exact ⟨rfl, rfl, trivial⟩

theorem c_M_restore {E : gE} {w : gW} {im : gIm} {Q : gQ} {f : Nat → Int} {m : Int → Int} (hm : MR E w f m) {sv : Int → Int} (u5 : w 65 = intE 3561 sv) (r4 : 0 ≤ f 4 ∧ f 4 ≤ 1) (hQ1 : f 4 = 0 → ∀ w', MTh E w f m 1 w' → Q (oV 0) w' im) (hQ2 : f 4 ≠ 0 → ∀ w', MR E w' (fU (fU f 6 0) 2 0) (cpy sv m 3561) → (∀ j, j ≠ 62 → j ≠ 63 → w' j = w j) → Q (oV (cpy sv m 3561 3)) w' im) : GM E 1 y_M_restore m_M_restore 0 0 [.ref (gad E 62)] w im Q := by
  obtain ⟨hn, u2, u3⟩ := id hm
  have k2 : g_cell E w im (gad E 62) _ := g_mut 62 (by omega) u2
  have k3 : g_cell E w im (gad E 63) _ := g_mut 63 (by omega) u3
  refine g_enter (by decide) rfl rfl (fun h => by first | rfl | cases h) (Nat.le_of_ble_eq_true rfl) rfl ?_
  refine g_aload_n (n := 0) (i := 0) rfl rfl d_M_restore_0 ?_
  refine g_iconst_i d_M_restore_1 ?_
  refine g_putA 9 6 62 (by omega) u2 f_M_33 (Or.inl rfl) (by rfl) (by rfl) (Nat.le_of_ble_eq_true rfl) d_M_restore_2 (fun w hs hn9 => ?_)
  have hth := hm.th (t := 0) hs hn9
  have hm0 := hm
  have hm := hth.1
  obtain ⟨hn, u2, u3⟩ := id hm
  have k2 : g_cell E w im (gad E 62) _ := g_mut 62 (by omega) u2
  have k3 : g_cell E w im (gad E 63) _ := g_mut 63 (by omega) u3
  refine g_aload_n (n := 0) (i := 0) rfl rfl d_M_restore_5 ?_
  refine g_getfield 9 4 f_M_249 k2 (by rfl) d_M_restore_6 ?_
  rw [hth.2.2 4 (by decide)]
  refine g_if_ne_i (tgt := 18) (by omega) d_M_restore_9 (by decide) (fun h9 => ?_) (fun h9 => ?_)
  · have h0 : f 4 ≠ 0 := by omega
    have hfr : ∀ j, j ≠ 62 → w j = _ := hn9
    have u5 := (hfr 65 (by omega)).trans u5
    have loop : ∀ (n9 : Nat) (k9 : Int) (w1 : gW), 0 ≤ k9 → k9 + n9 = 3561 → MS E w (fU f 6 0) (cpy sv m k9) w1 → G E 1 m_M_restore 20 [(0, .ref (gad E 62)), (1, .int (iI k9))] [] w1 im 0 0 Q := by
      intro n9
      induction n9 with
      | zero =>
        intro k9 w h9 hk9 hS
        have e9 : k9 = 3561 := by omega
        rw [e9] at hS
        obtain ⟨hm, hw9⟩ := id hS
        obtain ⟨hn, u2, u3⟩ := id hm
        have k2 : g_cell E w im (gad E 62) _ := g_mut 62 (by omega) u2
        have k3 : g_cell E w im (gad E 63) _ := g_mut 63 (by omega) u3
        refine g_iload_n (n := 1) (i := 1) rfl rfl d_M_restore_20 ?_
        refine g_sipush_i (by decide) d_M_restore_21 ?_
        refine g_icmp_ge_i (tgt := 45) (by omega) (by decide) d_M_restore_24 (by decide) (fun h24 => ?_) (fun h => by exfalso; omega)
        refine g_aload_n (n := 0) (i := 0) rfl rfl d_M_restore_45 ?_
        refine g_iconst_i d_M_restore_46 ?_
        refine g_putA 9 2 62 (by omega) u2 f_M_36 (Or.inl rfl) (by rfl) (by rfl) (Nat.le_of_ble_eq_true rfl) d_M_restore_47 (fun w hs hn99 => ?_)
        have hm : MR E w (fU (fU f 6 0) 2 0) (cpy sv m 3561) := ⟨hn, hs, (hn99 63 (by omega)).trans u3⟩
        obtain ⟨hn, u2, u3⟩ := id hm
        have k2 : g_cell E w im (gad E 62) _ := g_mut 62 (by omega) u2
        have k3 : g_cell E w im (gad E 63) _ := g_mut 63 (by omega) u3
        refine g_aload_n (n := 0) (i := 0) rfl rfl d_M_restore_50 ?_
        refine g_getfield 9 0 f_M_9 (by assumption) (by rfl) d_M_restore_51 ?_
        refine g_iconst_i d_M_restore_54 ?_
        refine g_iaload_i (by assumption) (by omega) (by omega) (by rfl) d_M_restore_55 ?_
        refine g_ireturn_i rfl d_M_restore_56 ?_
        exact hQ2 h0 _ hm (fun j h1 h2 => (hn99 j h1).trans ((hS.2 j h2).trans (hfr j h1)))
      | succ n9 ih =>
        intro k9 w h9 hk9 hS
        obtain ⟨hm, hw9⟩ := id hS
        obtain ⟨hn, u2, u3⟩ := id hm
        have k2 : g_cell E w im (gad E 62) _ := g_mut 62 (by omega) u2
        have k3 : g_cell E w im (gad E 63) _ := g_mut 63 (by omega) u3
        have k5 : g_cell E w im (gad E 65) _ := g_mut 65 (by omega) ((hS.2 65 (by omega)).trans u5)
        refine g_iload_n (n := 1) (i := 1) rfl rfl d_M_restore_20 ?_
        refine g_sipush_i (by decide) d_M_restore_21 ?_
        refine g_icmp_ge_i (tgt := 45) (by omega) (by decide) d_M_restore_24 (by decide) (fun h => by exfalso; omega) (fun h24 => ?_)
        refine g_aload_n (n := 0) (i := 0) rfl rfl d_M_restore_27 ?_
        refine g_getfield 9 0 f_M_9 (by assumption) (by rfl) d_M_restore_28 ?_
        refine g_iload_n (n := 1) (i := 1) rfl rfl d_M_restore_31 ?_
        refine g_aload_n (n := 0) (i := 0) rfl rfl d_M_restore_32 ?_
        refine g_getfield 9 3 f_M_16 (by assumption) (by rfl) d_M_restore_33 ?_
        refine g_iload_n (n := 1) (i := 1) rfl rfl d_M_restore_36 ?_
        refine g_iaload_i (by assumption) (by omega) (by omega) (by rfl) d_M_restore_37 ?_
        refine g_iastoreA 63 (by omega) u3 (by omega) (by omega) (by rfl) d_M_restore_38 (fun w hs hn9 => ?_)
        have hS := hS.trans (hm.row hs hn9)
        rw [cpy_s (s := sv) h9] at hS
        refine g_iinc_i (i := 1) rfl (by decide) rfl d_M_restore_39 ?_
        refine g_goto (tgt := 20) (by decide) d_M_restore_42 ?_
        exact g_cut (lv' := [(0, .ref (gad E 62)), (1, .int (iI (k9 + 1)))]) ⟨rfl, rfl, trivial⟩ (ih (k9 + 1) w (by omega) (by omega) hS)
    refine g_iconst_i d_M_restore_18 ?_
    refine g_istore_n (n := 1) (i := 1) rfl (by decide) rfl d_M_restore_19 ?_
    refine g_cut ?_ (loop 3561 0 w (by omega) (by omega) (by rw [cpy_0]; exact ⟨hm, fun _ _ => rfl⟩))
    exact ⟨rfl, rfl, trivial⟩
  · refine g_aload_n (n := 0) (i := 0) rfl rfl d_M_restore_12 ?_
    refine g_iconst_i d_M_restore_13 ?_
    refine g_callV1 rfl rfl e_M_fail l_M_52 iv_M_fail 9 (by decide) rfl (by assumption) (by decide) (Nat.zero_le _) (Nat.zero_le _) (Nat.le_of_ble_eq_true rfl) d_M_restore_14 (c_M_fail hm (fun w hF => ?_))
    refine g_ret ?_
    refine g_ireturn_i rfl d_M_restore_17 ?_
    exact hQ1 (by omega) _ (MTh.trans hth.2.2 hn9 hF)

