/-! ===== the reference: what is kept ===== -/

theorem c_M_keepTried {E : gE} {w : gW} {im : gIm} {Q : gQ} {f : Nat → Int} {m : Int → Int} (hm : MR E w f m) {tr : Int → Int} (u6 : w 66 = intE 3561 tr) (hQ : ∀ w' tr', w' 66 = intE 3561 tr' → (∀ j : Int, 0 ≤ j ∧ j < 3561 → tr' j = m j) → (∀ j, j ≠ 66 → w' j = w j) → Q (.inl none) w' im) : GM E 0 y_M_keepTried m_M_keepTried 0 0 [.ref (gad E 62)] w im Q := by
  obtain ⟨hn, u2, u3⟩ := id hm
  have k2 : g_cell E w im (gad E 62) _ := g_mut 62 (by omega) u2
  have k3 : g_cell E w im (gad E 63) _ := g_mut 63 (by omega) u3
  have loop : ∀ (n9 : Nat) (k9 : Int) (w1 : gW) (t1 : Int → Int), 0 ≤ k9 → k9 + n9 = 3561 → w1 66 = intE 3561 t1 → (∀ j, j ≠ 66 → w1 j = w j) → (∀ j : Int, 0 ≤ j ∧ j < k9 → t1 j = m j) → G E 0 m_M_keepTried 2 [(0, .ref (gad E 62)), (1, .int (iI k9))] [] w1 im 0 0 Q := by
    intro n9
    induction n9 with
    | zero =>
      intro k9 w1 t1 h9 hk9 hl1 hw1 hf1
      refine g_iload_n (n := 1) (i := 1) rfl rfl d_M_keepTried_2 ?_
      refine g_sipush_i (by decide) d_M_keepTried_3 ?_
      refine g_icmp_ge_i (tgt := 27) (by omega) (by decide) d_M_keepTried_6 (by decide) (fun h6 => ?_) (fun h => by exfalso; omega)
      refine g_return rfl d_M_keepTried_27 ?_
      exact hQ w1 t1 hl1 (fun j hj => hf1 j (by omega)) hw1
    | succ n9 ih =>
      intro k9 w1 t1 h9 hk9 hl1 hw1 hf1
      have k2 : g_cell E w1 im (gad E 62) _ := g_mut 62 (by omega) ((hw1 62 (by omega)).trans u2)
      have k3 : g_cell E w1 im (gad E 63) _ := g_mut 63 (by omega) ((hw1 63 (by omega)).trans u3)
      refine g_iload_n (n := 1) (i := 1) rfl rfl d_M_keepTried_2 ?_
      refine g_sipush_i (by decide) d_M_keepTried_3 ?_
      refine g_icmp_ge_i (tgt := 27) (by omega) (by decide) d_M_keepTried_6 (by decide) (fun h => by exfalso; omega) (fun h6 => ?_)
      refine g_aload_n (n := 0) (i := 0) rfl rfl d_M_keepTried_9 ?_
      refine g_getfield 9 5 f_M_19 (by assumption) (by rfl) d_M_keepTried_10 ?_
      refine g_iload_n (n := 1) (i := 1) rfl rfl d_M_keepTried_13 ?_
      refine g_aload_n (n := 0) (i := 0) rfl rfl d_M_keepTried_14 ?_
      refine g_getfield 9 0 f_M_9 (by assumption) (by rfl) d_M_keepTried_15 ?_
      refine g_iload_n (n := 1) (i := 1) rfl rfl d_M_keepTried_18 ?_
      refine g_iaload_i (by assumption) (by omega) (by omega) (by rfl) d_M_keepTried_19 ?_
      refine g_iastoreA 66 (by omega) hl1 (by omega) (by omega) (by rfl) d_M_keepTried_20 (fun w2 hs hn9 => ?_)
      refine g_iinc_i (i := 1) rfl (by decide) rfl d_M_keepTried_21 ?_
      refine g_goto (tgt := 2) (by decide) d_M_keepTried_24 ?_
      exact g_cut (lv' := [(0, .ref (gad E 62)), (1, .int (iI (k9 + 1)))]) ⟨rfl, rfl, trivial⟩ (ih (k9 + 1) w2 _ (by omega) (by omega) hs (fun j hj => (hn9 j hj).trans (hw1 j hj)) (fun j hj => by simp only [uI]; split <;> first | (rename_i e; rw [e]) | exact hf1 j (by omega)))
  refine g_enter (by decide) rfl rfl (fun h => by first | rfl | cases h) (Nat.le_of_ble_eq_true rfl) rfl ?_
  refine g_iconst_i d_M_keepTried_0 ?_
  refine g_istore_n (n := 1) (i := 1) rfl (by decide) rfl d_M_keepTried_1 ?_
  refine g_cut ?_ (loop 3561 0 w tr (by omega) (by omega) u6 (fun _ _ => rfl) (fun j hj => by omega))
  exact ⟨rfl, rfl, trivial⟩

