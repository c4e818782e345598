/-! ===== the reference: remembering ===== -/

theorem rem_s {p0 p1 tr : Int → Int} {b k9 : Int} (hp : ∀ j, p1 j = if b ≤ j ∧ j < b + k9 then tr (j - b) else p0 j) (h9 : 0 ≤ k9) : ∀ j, uI p1 (b + k9) (tr k9) j = if b ≤ j ∧ j < b + (k9 + 1) then tr (j - b) else p0 j := by
  intro j
  simp only [uI]
  by_cases e : j = b + k9
  · rw [if_pos e, if_pos (by omega), e, show b + k9 - b = k9 by omega]
  · rw [if_neg e, hp]
    by_cases e2 : b ≤ j ∧ j < b + k9
    · rw [if_pos e2, if_pos (by omega)]
    · rw [if_neg e2, if_neg (by omega)]
theorem rem_a {pa p1 : Int → Int} {k9 : Int} (hp : ∀ j, p1 j = if 0 ≤ j ∧ j < k9 then pa (j + 3561) else pa j) (h9 : 0 ≤ k9) : ∀ j, uI p1 k9 (p1 (k9 + 3561)) j = if 0 ≤ j ∧ j < k9 + 1 then pa (j + 3561) else pa j := by
  intro j
  simp only [uI]
  by_cases e : j = k9
  · rw [if_pos e, if_pos (by omega), e, hp, if_neg (by omega)]
  · rw [if_neg e, hp]
    by_cases e2 : 0 ≤ j ∧ j < k9
    · rw [if_pos e2, if_pos (by omega)]
    · rw [if_neg e2, if_neg (by omega)]

theorem c_M_remember {E : gE} {w : gW} {im : gIm} {Q : gQ} {f : Nat → Int} {m : Int → Int} (hm : MR E w f m) {pa tr : Int → Int} (u4 : w 64 = intE 28488 pa) (u6 : w 66 = intE 3561 tr) (r2 : 0 ≤ f 2 ∧ f 2 ≤ 8) (hQ1 : f 2 = 8 → ∀ (w' : gW) (f' : Unit) (p0 p' : Int → Int), (∀ j, p0 j = if 0 ≤ j ∧ j < 24927 then pa (j + 3561) else pa j) → w' 62 = mE E (fU (fU f 2 (f 2 - 1)) 2 (fU f 2 (f 2 - 1) 2 + 1)) → w' 64 = intE 28488 p' → (∀ j, j ≠ 62 → j ≠ 64 → w' j = w j) → (∀ j, p' j = if 3561 * fU f 2 (f 2 - 1) 2 ≤ j ∧ j < 3561 * fU f 2 (f 2 - 1) 2 + 3561 then tr (j - 3561 * fU f 2 (f 2 - 1) 2) else p0 j) → Q (.inl none) w' im) (hQ2 : f 2 ≠ 8 → ∀ (w' : gW) (p' : Int → Int), w' 62 = mE E (fU f 2 (f 2 + 1)) → w' 64 = intE 28488 p' → (∀ j, j ≠ 62 → j ≠ 64 → w' j = w j) → (∀ j, p' j = if 3561 * f 2 ≤ j ∧ j < 3561 * f 2 + 3561 then tr (j - 3561 * f 2) else pa j) → Q (.inl none) w' im) : GM E 0 y_M_remember m_M_remember 0 0 [.ref (gad E 62)] w im Q := by
  obtain ⟨hn, v2, v3⟩ := id hm
  have loopB : ∀ (n9 : Nat) (k9 : Int) (w1 : gW) (f1 : Nat → Int) (p0 p1 : Int → Int), 0 ≤ k9 → k9 + n9 = 3561 → (0 ≤ f1 2 ∧ f1 2 ≤ 7) → w1 62 = mE E f1 → w1 64 = intE 28488 p1 → (∀ j, j ≠ 62 → j ≠ 64 → w1 j = w j) → (∀ j, p1 j = if 3561 * f1 2 ≤ j ∧ j < 3561 * f1 2 + k9 then tr (j - 3561 * f1 2) else p0 j) → (∀ (w' : gW) (p' : Int → Int), w' 62 = mE E (fU f1 2 (f1 2 + 1)) → w' 64 = intE 28488 p' → (∀ j, j ≠ 62 → j ≠ 64 → w' j = w j) → (∀ j, p' j = if 3561 * f1 2 ≤ j ∧ j < 3561 * f1 2 + 3561 then tr (j - 3561 * f1 2) else p0 j) → Q (.inl none) w' im) → G E 0 m_M_remember 57 [(0, .ref (gad E 62)), (1, .int (iI k9))] [] w1 im 0 0 Q := by
    intro n9
    induction n9 with
    | zero =>
      intro k9 w1 f1 p0 p1 h9 hk9 hf u2 u4 hfr hp kk
      have e9 : k9 = 3561 := by omega
      rw [e9] at hp
      have k2 : g_cell E w1 im (gad E 62) _ := g_mut 62 (by omega) u2
      have k4 : g_cell E w1 im (gad E 64) _ := g_mut 64 (by omega) u4
      have k6 : g_cell E w1 im (gad E 66) _ := g_mut 66 (by omega) ((hfr 66 (by omega) (by omega)).trans u6)
      refine g_iload_n (n := 1) (i := 1) rfl rfl d_M_remember_57 ?_
      refine g_sipush_i (by decide) d_M_remember_58 ?_
      refine g_icmp_ge_i (tgt := 91) (by omega) (by decide) d_M_remember_61 (by decide) (fun h61 => ?_) (fun h => by exfalso; omega)
      refine g_aload_n (n := 0) (i := 0) rfl rfl d_M_remember_91 ?_
      refine g_dup rfl d_M_remember_92 ?_
      refine g_getfield 9 2 f_M_36 (by assumption) (by rfl) d_M_remember_93 ?_
      refine g_iconst_i d_M_remember_96 ?_
      refine g_iadd_i d_M_remember_97 ?_
      refine g_putA 9 2 62 (by omega) u2 f_M_36 (Or.inl rfl) (by rfl) (by rfl) (Nat.le_of_ble_eq_true rfl) d_M_remember_98 (fun w2 hs hn9 => ?_)
      refine g_return rfl d_M_remember_101 ?_
      exact kk w2 p1 hs ((hn9 64 (by omega)).trans u4) (fun j h1 h2 => (hn9 j h1).trans (hfr j h1 h2)) hp
    | succ n9 ih =>
      intro k9 w1 f1 p0 p1 h9 hk9 hf u2 u4 hfr hp kk
      have k2 : g_cell E w1 im (gad E 62) _ := g_mut 62 (by omega) u2
      have k4 : g_cell E w1 im (gad E 64) _ := g_mut 64 (by omega) u4
      have k6 : g_cell E w1 im (gad E 66) _ := g_mut 66 (by omega) ((hfr 66 (by omega) (by omega)).trans u6)
      refine g_iload_n (n := 1) (i := 1) rfl rfl d_M_remember_57 ?_
      refine g_sipush_i (by decide) d_M_remember_58 ?_
      refine g_icmp_ge_i (tgt := 91) (by omega) (by decide) d_M_remember_61 (by decide) (fun h => by exfalso; omega) (fun h61 => ?_)
      refine g_aload_n (n := 0) (i := 0) rfl rfl d_M_remember_64 ?_
      refine g_getfield 9 1 f_M_13 (by assumption) (by rfl) d_M_remember_65 ?_
      refine g_sipush_i (by decide) d_M_remember_68 ?_
      refine g_aload_n (n := 0) (i := 0) rfl rfl d_M_remember_71 ?_
      refine g_getfield 9 2 f_M_36 (by assumption) (by rfl) d_M_remember_72 ?_
      refine g_imul_i d_M_remember_75 ?_
      refine g_iload_n (n := 1) (i := 1) rfl rfl d_M_remember_76 ?_
      refine g_iadd_i d_M_remember_77 ?_
      refine g_aload_n (n := 0) (i := 0) rfl rfl d_M_remember_78 ?_
      refine g_getfield 9 5 f_M_19 (by assumption) (by rfl) d_M_remember_79 ?_
      refine g_iload_n (n := 1) (i := 1) rfl rfl d_M_remember_82 ?_
      refine g_iaload_i (by assumption) (by omega) (by omega) (by rfl) d_M_remember_83 ?_
      refine g_iastoreA 64 (by omega) u4 (by omega) (by omega) (by rfl) d_M_remember_84 (fun w2 hs hn9 => ?_)
      refine g_iinc_i (i := 1) rfl (by decide) rfl d_M_remember_85 ?_
      refine g_goto (tgt := 57) (by decide) d_M_remember_88 ?_
      exact g_cut (lv' := [(0, .ref (gad E 62)), (1, .int (iI (k9 + 1)))]) ⟨rfl, rfl, trivial⟩ (ih (k9 + 1) w2 f1 p0 _ (by omega) (by omega) hf ((hn9 62 (by omega)).trans u2) hs (fun j h1 h2 => (hn9 j h2).trans (hfr j h1 h2)) (rem_s hp h9) kk)
  have loopA : ∀ (n9 : Nat) (k9 : Int) (w1 : gW) (f1 : Nat → Int) (p1 : Int → Int), 0 ≤ k9 → k9 + n9 = 24927 → f1 2 = 7 → w1 62 = mE E f1 → w1 64 = intE 28488 p1 → (∀ j, j ≠ 62 → j ≠ 64 → w1 j = w j) → (∀ j, p1 j = if 0 ≤ j ∧ j < k9 then pa (j + 3561) else pa j) → (∀ (w' : gW) (p0 p' : Int → Int), (∀ j, p0 j = if 0 ≤ j ∧ j < 24927 then pa (j + 3561) else pa j) → w' 62 = mE E (fU f1 2 (f1 2 + 1)) → w' 64 = intE 28488 p' → (∀ j, j ≠ 62 → j ≠ 64 → w' j = w j) → (∀ j, p' j = if 3561 * f1 2 ≤ j ∧ j < 3561 * f1 2 + 3561 then tr (j - 3561 * f1 2) else p0 j) → Q (.inl none) w' im) → G E 0 m_M_remember 21 [(0, .ref (gad E 62)), (1, .int (iI k9))] [] w1 im 0 0 Q := by
    intro n9
    induction n9 with
    | zero =>
      intro k9 w1 f1 p1 h9 hk9 hf u2 u4 hfr hp kk
      have e9 : k9 = 24927 := by omega
      rw [e9] at hp
      have k2 : g_cell E w1 im (gad E 62) _ := g_mut 62 (by omega) u2
      have k4 : g_cell E w1 im (gad E 64) _ := g_mut 64 (by omega) u4
      have k6 : g_cell E w1 im (gad E 66) _ := g_mut 66 (by omega) ((hfr 66 (by omega) (by omega)).trans u6)
      refine g_iload_n (n := 1) (i := 1) rfl rfl d_M_remember_21 ?_
      refine g_sipush_i (by decide) d_M_remember_22 ?_
      refine g_aload_n (n := 0) (i := 0) rfl rfl d_M_remember_25 ?_
      refine g_getfield 9 2 f_M_36 (by assumption) (by rfl) d_M_remember_26 ?_
      refine g_imul_i d_M_remember_29 ?_
      refine g_icmp_ge_i (tgt := 55) (by omega) (by omega) d_M_remember_30 (by decide) (fun h30 => ?_) (fun h => by exfalso; omega)
      refine g_iconst_i d_M_remember_55 ?_
      refine g_istore_n (n := 1) (i := 1) rfl (by decide) rfl d_M_remember_56 ?_
      exact g_cut (lv' := [(0, .ref (gad E 62)), (1, .int (iI 0))]) ⟨rfl, rfl, trivial⟩ (loopB 3561 0 w1 f1 p1 p1 (by omega) (by omega) (by omega) u2 u4 hfr (fun j => by rw [if_neg (by omega)]) (fun w' p' => kk w' p1 p' hp))
    | succ n9 ih =>
      intro k9 w1 f1 p1 h9 hk9 hf u2 u4 hfr hp kk
      have k2 : g_cell E w1 im (gad E 62) _ := g_mut 62 (by omega) u2
      have k4 : g_cell E w1 im (gad E 64) _ := g_mut 64 (by omega) u4
      have k6 : g_cell E w1 im (gad E 66) _ := g_mut 66 (by omega) ((hfr 66 (by omega) (by omega)).trans u6)
      refine g_iload_n (n := 1) (i := 1) rfl rfl d_M_remember_21 ?_
      refine g_sipush_i (by decide) d_M_remember_22 ?_
      refine g_aload_n (n := 0) (i := 0) rfl rfl d_M_remember_25 ?_
      refine g_getfield 9 2 f_M_36 (by assumption) (by rfl) d_M_remember_26 ?_
      refine g_imul_i d_M_remember_29 ?_
      refine g_icmp_ge_i (tgt := 55) (by omega) (by omega) d_M_remember_30 (by decide) (fun h => by exfalso; omega) (fun h30 => ?_)
      refine g_aload_n (n := 0) (i := 0) rfl rfl d_M_remember_33 ?_
      refine g_getfield 9 1 f_M_13 (by assumption) (by rfl) d_M_remember_34 ?_
      refine g_iload_n (n := 1) (i := 1) rfl rfl d_M_remember_37 ?_
      refine g_aload_n (n := 0) (i := 0) rfl rfl d_M_remember_38 ?_
      refine g_getfield 9 1 f_M_13 (by assumption) (by rfl) d_M_remember_39 ?_
      refine g_iload_n (n := 1) (i := 1) rfl rfl d_M_remember_42 ?_
      refine g_sipush_i (by decide) d_M_remember_43 ?_
      refine g_iadd_i d_M_remember_46 ?_
      refine g_iaload_i (by assumption) (by omega) (by omega) (by rfl) d_M_remember_47 ?_
      refine g_iastoreA 64 (by omega) u4 (by omega) (by omega) (by rfl) d_M_remember_48 (fun w2 hs hn9 => ?_)
      refine g_iinc_i (i := 1) rfl (by decide) rfl d_M_remember_49 ?_
      refine g_goto (tgt := 21) (by decide) d_M_remember_52 ?_
      exact g_cut (lv' := [(0, .ref (gad E 62)), (1, .int (iI (k9 + 1)))]) ⟨rfl, rfl, trivial⟩ (ih (k9 + 1) w2 f1 _ (by omega) (by omega) hf ((hn9 62 (by omega)).trans u2) hs (fun j h1 h2 => (hn9 j h2).trans (hfr j h1 h2)) (rem_a hp h9) kk)
  have u2 := v2
  have k2 : g_cell E w im (gad E 62) _ := g_mut 62 (by omega) v2
  refine g_enter (by decide) rfl rfl (fun h => by first | rfl | cases h) (Nat.le_of_ble_eq_true rfl) rfl ?_
  refine g_aload_n (n := 0) (i := 0) rfl rfl d_M_remember_0 ?_
  refine g_getfield 9 2 f_M_36 (by assumption) (by rfl) d_M_remember_1 ?_
  refine g_bipush_i (by decide) d_M_remember_4 ?_
  refine g_icmp_ne_i (tgt := 55) (by omega) (by decide) d_M_remember_6 (by decide) (fun h6 => ?_) (fun h6 => ?_)
  · refine g_iconst_i d_M_remember_55 ?_
    refine g_istore_n (n := 1) (i := 1) rfl (by decide) rfl d_M_remember_56 ?_
    exact g_cut (lv' := [(0, .ref (gad E 62)), (1, .int (iI 0))]) ⟨rfl, rfl, trivial⟩ (loopB 3561 0 w f pa pa (by omega) (by omega) (by omega) u2 u4 (fun _ _ _ => rfl) (fun j => by rw [if_neg (by omega)]) (fun w' p' a1 a2 a3 a4 => hQ2 (by omega) w' p' a1 a2 a3 a4))
  · refine g_aload_n (n := 0) (i := 0) rfl rfl d_M_remember_9 ?_
    refine g_dup rfl d_M_remember_10 ?_
    refine g_getfield 9 2 f_M_36 (by assumption) (by rfl) d_M_remember_11 ?_
    refine g_iconst_i d_M_remember_14 ?_
    refine g_isub_i d_M_remember_15 ?_
    refine g_putA 9 2 62 (by omega) u2 f_M_36 (Or.inl rfl) (by rfl) (by rfl) (Nat.le_of_ble_eq_true rfl) d_M_remember_16 (fun w2 hs hn9 => ?_)
    refine g_iconst_i d_M_remember_19 ?_
    refine g_istore_n (n := 1) (i := 1) rfl (by decide) rfl d_M_remember_20 ?_
    exact g_cut (lv' := [(0, .ref (gad E 62)), (1, .int (iI 0))]) ⟨rfl, rfl, trivial⟩ (loopA 24927 0 w2 (fU f 2 (f 2 - 1)) pa (by omega) (by omega) (by have e : fU f 2 (f 2 - 1) 2 = f 2 - 1 := rfl; omega) hs ((hn9 64 (by omega)).trans u4) (fun j h1 h2 => hn9 j h1) (fun j => by rw [if_neg (by omega)]) (fun w' p0 p' hp0 a1 a2 a3 a4 => hQ1 (by omega) w' () p0 p' hp0 a1 a2 a3 a4))

