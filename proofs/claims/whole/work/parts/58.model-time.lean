/-! ===== the reference: time, clear, undo, snapshot, restore ===== -/
/-- a row x minutes later -/
def goF (m : Int → Int) (x : Int) : Int → Int := fun j => if j = 0 then m 0 + x else if 5 ≤ j ∧ j < 5 + 34 * m 1 ∧ 3 ≤ (j - 5) % 34 then m j + m (5 + 34 * ((j - 5) / 34) + 2) * cbZ (m 0) (m 0 + x) ((j - 5) % 34 - 3) else m j
/-- in the midst of a minute: the gates below i are counted -/
def giF (m : Int → Int) (x i : Int) : Int → Int := fun j => if 5 ≤ j ∧ j < 5 + 34 * i ∧ (j - 5) % 34 = 3 + (m 0 + x) / 1440 then goF m x j + m (5 + 34 * ((j - 5) / 34) + 2) else goF m x j
theorem cbZ_s {f x d : Int} (hf : 0 ≤ f) (hx : 0 ≤ x) (hd : 0 ≤ d) : cbZ f (f + (x + 1)) d = cbZ f (f + x) d + (if d = (f + x) / 1440 ∧ 480 ≤ (f + x) % 1440 ∧ (f + x) % 1440 ≤ 959 then 1 else 0) := by
  unfold cbZ
  by_cases h : d = (f + x) / 1440 ∧ 480 ≤ (f + x) % 1440 ∧ (f + x) % 1440 ≤ 959
  · rw [if_pos h]; omega
  · rw [if_neg h]; omega
theorem cbZ_0 {f d : Int} : cbZ f (f + 0) d = 0 := by unfold cbZ; omega
theorem goF_0 {m : Int → Int} : goF m 0 = m := by
  funext j
  unfold goF
  rw [cbZ_0]
  (repeat' split) <;> first | (subst_vars; omega) | omega
theorem giF_0 {m : Int → Int} {x : Int} : giF m x 0 = goF m x := by
  funext j
  unfold giF
  rw [if_neg (by omega)]
theorem goF_c {m : Int → Int} {x : Int} : goF m x 0 = m 0 + x := if_pos rfl
theorem goF_h {m : Int → Int} {x j : Int} (h : j ≠ 0) (h2 : j < 5 ∨ (j - 5) % 34 < 3 ∨ 413 ≤ j) (h1 : m 1 ≤ 12) : goF m x j = m j := by
  unfold goF
  rw [if_neg h, if_neg (by omega)]
theorem giF_h {m : Int → Int} {x i j : Int} (h : j ≠ 0) (h2 : j < 5 ∨ (j - 5) % 34 < 3 ∨ 413 ≤ j) (h1 : m 1 ≤ 12) (hi : i ≤ 12) (h0 : 0 ≤ m 0 + x) : giF m x i j = m j := by
  unfold giF
  rw [if_neg (by omega), goF_h h h2 h1]
theorem giF_c {m : Int → Int} {x i : Int} : giF m x i 0 = m 0 + x := by
  unfold giF
  rw [if_neg (by omega), goF_c]
theorem giF_s {m : Int → Int} {x i : Int} (h0 : 0 ≤ i) (hk : 0 ≤ m 0 + x ∧ m 0 + x < 44640) : uI (giF m x i) (5 + 34 * i + 3 + (m 0 + x) / 1440) (giF m x i (5 + 34 * i + 3 + (m 0 + x) / 1440) + m (5 + 34 * i + 2)) = giF m x (i + 1) := by
  funext j
  simp only [uI]
  by_cases e : j = 5 + 34 * i + 3 + (m 0 + x) / 1440
  · rw [if_pos e, ← e]
    unfold giF
    rw [if_neg (by omega), if_pos (by omega), show (j - 5) / 34 = i by omega]
  · rw [if_neg e]
    unfold giF
    by_cases h : 5 ≤ j ∧ j < 5 + 34 * i ∧ (j - 5) % 34 = 3 + (m 0 + x) / 1440
    · rw [if_pos h, if_pos (by omega)]
    · rw [if_neg h, if_neg (by omega)]
theorem goF_s1 {m : Int → Int} {x : Int} (h0 : 0 ≤ m 0) (hx : 0 ≤ x) (hc : 480 ≤ (m 0 + x) % 1440 ∧ (m 0 + x) % 1440 ≤ 959) : uI (giF m x (m 1)) 0 (m 0 + x + 1) = goF m (x + 1) := by
  funext j
  simp only [uI]
  by_cases e : j = 0
  · rw [if_pos e, e, goF_c]; omega
  · rw [if_neg e]
    unfold giF goF
    rw [if_neg e, if_neg e]
    by_cases h : 5 ≤ j ∧ j < 5 + 34 * m 1 ∧ 3 ≤ (j - 5) % 34
    · rw [if_pos h, if_pos h, cbZ_s h0 hx (by omega)]
      by_cases h2 : (j - 5) % 34 = 3 + (m 0 + x) / 1440
      · rw [if_pos (by omega), if_pos (by omega), Int.mul_add]; omega
      · rw [if_neg (by omega), if_neg (by omega), Int.add_zero]
    · rw [if_neg h, if_neg h, if_neg (by omega)]
theorem goF_s0 {m : Int → Int} {x : Int} (h0 : 0 ≤ m 0) (hx : 0 ≤ x) (hc : ¬ (480 ≤ (m 0 + x) % 1440 ∧ (m 0 + x) % 1440 ≤ 959)) : uI (goF m x) 0 (m 0 + x + 1) = goF m (x + 1) := by
  funext j
  simp only [uI]
  by_cases e : j = 0
  · rw [if_pos e, e, goF_c]; omega
  · rw [if_neg e]
    unfold goF
    rw [if_neg e, if_neg e]
    by_cases h : 5 ≤ j ∧ j < 5 + 34 * m 1 ∧ 3 ≤ (j - 5) % 34
    · rw [if_pos h, if_pos h, cbZ_s h0 hx (by omega), if_neg (by omega), Int.add_zero]
    · rw [if_neg h, if_neg h]

theorem c_M_today3 {E : gE} {w : gW} {im : gIm} {Q : gQ} {f : Nat → Int} {m : Int → Int} (hm : MR E w f m) (h0 : 0 ≤ m 0 ∧ m 0 ≤ 50000) (hQ : Q (.inl (some (.int (iI (m 0 / 1440))))) w im) : GM E 0 y_M_today m_M_today 0 0 [.ref (gad E 62)] w im Q := by
  obtain ⟨hn, u2, u3⟩ := id hm
  have k2 : g_cell E w im (gad E 62) _ := g_mut 62 (by omega) u2
  have k3 : g_cell E w im (gad E 63) _ := g_mut 63 (by omega) u3
  refine g_enter (by decide) rfl rfl (fun h => by first | rfl | cases h) (Nat.le_of_ble_eq_true rfl) rfl ?_
  refine g_aload_n (n := 0) (i := 0) rfl rfl d_M_today_0 ?_
  refine g_getfield 9 0 f_M_9 (by assumption) (by rfl) d_M_today_1 ?_
  refine g_iconst_i d_M_today_4 ?_
  refine g_iaload_i (by assumption) (by omega) (by omega) (by rfl) d_M_today_5 ?_
  refine g_sipush_i (by decide) d_M_today_6 ?_
  refine g_idiv_i (by omega) (by omega) d_M_today_9 ?_
  refine g_ireturn_i rfl d_M_today_10 ?_
  exact hQ

theorem c_M_goesOn {E : gE} {w : gW} {im : gIm} {Q : gQ} {f : Nat → Int} {m : Int → Int} (hm : MR E w f m) {x : Int} (hr : (0 ≤ m 0 ∧ m 0 ≤ 50000) ∧ (0 ≤ m 1 ∧ m 1 ≤ 12) ∧ 0 ≤ x ∧ m 0 + x ≤ 43200) (hQ : ∀ w', MS E w f (goF m x) w' → Q (.inl none) w' im) : GM E 1 y_M_goesOn m_M_goesOn 0 0 [.ref (gad E 62), .int (iI x)] w im Q := by
  obtain ⟨h0, h1, hx0, hx1⟩ := hr
  have loop : ∀ (n9 : Nat) (k9 : Int) (w1 : gW), 0 ≤ k9 → k9 + n9 = x → MS E w f (goF m k9) w1 → G E 1 m_M_goesOn 2 [(0, .ref (gad E 62)), (1, .int (iI x)), (2, .int (iI k9))] [] w1 im 0 0 Q := by
    intro n9
    induction n9 with
    | zero =>
      intro k9 w h9 hk9 hS
      have e9 : k9 = x := by omega
      refine g_iload_n (n := 2) (i := 2) rfl rfl d_M_goesOn_2 ?_
      refine g_iload_n (n := 1) (i := 1) rfl rfl d_M_goesOn_3 ?_
      refine g_icmp_ge_i (tgt := 90) (by omega) (by omega) d_M_goesOn_4 (by decide) (fun h4 => ?_) (fun h => by exfalso; omega)
      refine g_return rfl d_M_goesOn_90 ?_
      exact hQ _ (e9 ▸ hS)
    | succ n9 ih =>
      intro k9 w h9 hk9 hS
      have hmn : 0 ≤ m 0 + k9 ∧ m 0 + k9 < 44640 := by omega
      have inner : ∀ (n8 : Nat) (i9 : Int) (w1 : gW), (480 ≤ (m 0 + k9) % 1440 ∧ (m 0 + k9) % 1440 ≤ 959) → 0 ≤ i9 → i9 + n8 = m 1 → MS E w f (giF m k9 i9) w1 → G E 1 m_M_goesOn 31 [(0, .ref (gad E 62)), (1, .int (iI x)), (2, .int (iI k9)), (3, .int (iI i9))] [] w1 im 0 0 Q := by
        intro n8
        induction n8 with
        | zero =>
          intro i9 w1 hc hi hi9 hS2
          have hS := hS.trans hS2
          clear hS2
          have e9 : i9 = m 1 := by omega
          rw [e9] at hS
          obtain ⟨hm, hw9⟩ := id hS
          obtain ⟨hn, u2, u3⟩ := id hm
          have k2 : g_cell E w1 im (gad E 62) _ := g_mut 62 (by omega) u2
          have k3 : g_cell E w1 im (gad E 63) _ := g_mut 63 (by omega) u3
          refine g_iload_n (n := 3) (i := 3) rfl rfl d_M_goesOn_31 ?_
          refine g_aload_n (n := 0) (i := 0) rfl rfl d_M_goesOn_32 ?_
          refine g_getfield 9 0 f_M_9 (by assumption) (by rfl) d_M_goesOn_33 ?_
          refine g_iconst_i d_M_goesOn_36 ?_
          refine g_iaload_i k3 (by omega) (by omega) (by rfl) d_M_goesOn_37 ?_
          rw [giF_h (by omega) (by omega) h1.2 (by omega) hmn.1]
          refine g_icmp_ge_i (tgt := 74) (by omega) (by omega) d_M_goesOn_38 (by decide) (fun h38 => ?_) (fun h => by exfalso; omega)
          refine g_aload_n (n := 0) (i := 0) rfl rfl d_M_goesOn_74 ?_
          refine g_getfield 9 0 f_M_9 (by assumption) (by rfl) d_M_goesOn_75 ?_
          refine g_iconst_i d_M_goesOn_78 ?_
          refine g_dup2 rfl rfl d_M_goesOn_79 ?_
          refine g_iaload_i k3 (by omega) (by omega) (by rfl) d_M_goesOn_80 ?_
          rw [giF_c]
          refine g_iconst_i d_M_goesOn_81 ?_
          refine g_iadd_i d_M_goesOn_82 ?_
          refine g_iastoreA 63 (by omega) u3 (by omega) (by omega) (by rfl) d_M_goesOn_83 (fun w hs hn9 => ?_)
          have hS := hS.trans (hm.row hs hn9)
          rw [goF_s1 h0.1 h9 hc] at hS
          refine g_iinc_i (i := 2) rfl (by decide) rfl d_M_goesOn_84 ?_
          refine g_goto (tgt := 2) (by decide) d_M_goesOn_87 ?_
          exact g_cut (lv' := [(0, .ref (gad E 62)), (1, .int (iI x)), (2, .int (iI (k9 + 1)))]) ⟨rfl, rfl, rfl, trivial⟩ (ih (k9 + 1) w (by omega) (by omega) hS)
        | succ n8 ih2 =>
          intro i9 w1 hc hi hi9 hS2
          have hS := hS.trans hS2
          obtain ⟨hm, hw9⟩ := id hS
          obtain ⟨hn, u2, u3⟩ := id hm
          have k2 : g_cell E w1 im (gad E 62) _ := g_mut 62 (by omega) u2
          have k3 : g_cell E w1 im (gad E 63) _ := g_mut 63 (by omega) u3
          refine g_iload_n (n := 3) (i := 3) rfl rfl d_M_goesOn_31 ?_
          refine g_aload_n (n := 0) (i := 0) rfl rfl d_M_goesOn_32 ?_
          refine g_getfield 9 0 f_M_9 (by assumption) (by rfl) d_M_goesOn_33 ?_
          refine g_iconst_i d_M_goesOn_36 ?_
          refine g_iaload_i k3 (by omega) (by omega) (by rfl) d_M_goesOn_37 ?_
          rw [giF_h (by omega) (by omega) h1.2 (by omega) hmn.1]
          refine g_icmp_ge_i (tgt := 74) (by omega) (by omega) d_M_goesOn_38 (by decide) (fun h => by exfalso; omega) (fun h38 => ?_)
          refine g_aload_n (n := 0) (i := 0) rfl rfl d_M_goesOn_41 ?_
          refine g_getfield 9 0 f_M_9 (by assumption) (by rfl) d_M_goesOn_42 ?_
          refine g_iconst_i d_M_goesOn_45 ?_
          refine g_bipush_i (by decide) d_M_goesOn_46 ?_
          refine g_iload_n (n := 3) (i := 3) rfl rfl d_M_goesOn_48 ?_
          refine g_imul_i d_M_goesOn_49 ?_
          refine g_iadd_i d_M_goesOn_50 ?_
          refine g_iconst_i d_M_goesOn_51 ?_
          refine g_iadd_i d_M_goesOn_52 ?_
          refine g_aload_n (n := 0) (i := 0) rfl rfl d_M_goesOn_53 ?_
          refine g_callV0 rfl rfl e_M_today l_M_76 iv_M_today 9 (by decide) rfl (by assumption) (by decide) (Nat.zero_le _) (Nat.zero_le _) (Nat.le_of_ble_eq_true rfl) d_M_goesOn_54 (c_M_today3 hm (by rw [giF_c]; omega) ?_)
          refine g_ret ?_
          rw [giF_c]
          refine g_iadd_i d_M_goesOn_57 ?_
          refine g_dup2 rfl rfl d_M_goesOn_58 ?_
          refine g_iaload_i (by assumption) (by omega) (by omega) (by rfl) d_M_goesOn_59 ?_
          refine g_aload_n (n := 0) (i := 0) rfl rfl d_M_goesOn_60 ?_
          refine g_iload_n (n := 3) (i := 3) rfl rfl d_M_goesOn_61 ?_
          refine g_iconst_i d_M_goesOn_62 ?_
          refine g_callV2 rfl rfl e_M_g l_M_63 iv_M_g 9 (by decide) rfl (by assumption) (by decide) (Nat.zero_le _) (Nat.zero_le _) (Nat.le_of_ble_eq_true rfl) d_M_goesOn_63 (c_M_g hm (by omega) (by omega) ?_)
          refine g_ret ?_
          rw [giF_h (by omega) (by omega) h1.2 (by omega) hmn.1]
          refine g_iadd_i d_M_goesOn_66 ?_
          refine g_iastoreA 63 (by omega) u3 (by omega) (by omega) (by rfl) d_M_goesOn_67 (fun w2 hs hn9 => ?_)
          have hS2 := hS2.trans (hm.row hs hn9)
          rw [giF_s hi hmn] at hS2
          refine g_iinc_i (i := 3) rfl (by decide) rfl d_M_goesOn_68 ?_
          refine g_goto (tgt := 31) (by decide) d_M_goesOn_71 ?_
          exact g_cut (lv' := [(0, .ref (gad E 62)), (1, .int (iI x)), (2, .int (iI k9)), (3, .int (iI (i9 + 1)))]) ⟨rfl, rfl, rfl, rfl, trivial⟩ (ih2 (i9 + 1) w2 hc (by omega) (by omega) hS2)
      obtain ⟨hm, hw9⟩ := id hS
      obtain ⟨hn, u2, u3⟩ := id hm
      have k2 : g_cell E w im (gad E 62) _ := g_mut 62 (by omega) u2
      have k3 : g_cell E w im (gad E 63) _ := g_mut 63 (by omega) u3
      refine g_iload_n (n := 2) (i := 2) rfl rfl d_M_goesOn_2 ?_
      refine g_iload_n (n := 1) (i := 1) rfl rfl d_M_goesOn_3 ?_
      refine g_icmp_ge_i (tgt := 90) (by omega) (by omega) d_M_goesOn_4 (by decide) (fun h => by exfalso; omega) (fun h4 => ?_)
      refine g_aload_n (n := 0) (i := 0) rfl rfl d_M_goesOn_7 ?_
      refine g_getfield 9 0 f_M_9 (by assumption) (by rfl) d_M_goesOn_8 ?_
      refine g_iconst_i d_M_goesOn_11 ?_
      refine g_iaload_i k3 (by omega) (by omega) (by rfl) d_M_goesOn_12 ?_
      rw [goF_c]
      refine g_sipush_i (by decide) d_M_goesOn_13 ?_
      refine g_irem_i (by omega) (by omega) d_M_goesOn_16 ?_
      refine g_sipush_i (by decide) d_M_goesOn_17 ?_
      refine g_sipush_i (by decide) d_M_goesOn_20 ?_
      refine g_callS3 rfl rfl e_M_isIn l_M_45 st_M_isIn (by decide) (Nat.zero_le _) (Nat.zero_le _) (Nat.le_of_ble_eq_true rfl) d_M_goesOn_23 (c_M_isIn (by omega) (by omega) (by omega) (fun hI => ?_) (fun hI => ?_))
      · refine g_ret ?_
        refine g_if_eq_i (tgt := 74) (by decide) d_M_goesOn_26 (by decide) (fun h => absurd h (by decide)) (fun h26 => ?_)
        refine g_iconst_i d_M_goesOn_29 ?_
        refine g_istore_n (n := 3) (i := 3) rfl (by decide) rfl d_M_goesOn_30 ?_
        exact g_cut (lv' := [(0, .ref (gad E 62)), (1, .int (iI x)), (2, .int (iI k9)), (3, .int (iI 0))]) ⟨rfl, rfl, rfl, rfl, trivial⟩ (inner (m 1).toNat 0 w hI (by omega) (by omega) (by rw [giF_0]; exact ⟨hm, fun _ _ => rfl⟩))
      · refine g_ret ?_
        refine g_if_eq_i (tgt := 74) (by decide) d_M_goesOn_26 (by decide) (fun h26 => ?_) (fun h => absurd h (by decide))
        refine g_aload_n (n := 0) (i := 0) rfl rfl d_M_goesOn_74 ?_
        refine g_getfield 9 0 f_M_9 (by assumption) (by rfl) d_M_goesOn_75 ?_
        refine g_iconst_i d_M_goesOn_78 ?_
        refine g_dup2 rfl rfl d_M_goesOn_79 ?_
        refine g_iaload_i k3 (by omega) (by omega) (by rfl) d_M_goesOn_80 ?_
        rw [goF_c]
        refine g_iconst_i d_M_goesOn_81 ?_
        refine g_iadd_i d_M_goesOn_82 ?_
        refine g_iastoreA 63 (by omega) u3 (by omega) (by omega) (by rfl) d_M_goesOn_83 (fun w hs hn9 => ?_)
        have hS := hS.trans (hm.row hs hn9)
        rw [goF_s0 h0.1 h9 hI] at hS
        refine g_iinc_i (i := 2) rfl (by decide) rfl d_M_goesOn_84 ?_
        refine g_goto (tgt := 2) (by decide) d_M_goesOn_87 ?_
        exact g_cut (lv' := [(0, .ref (gad E 62)), (1, .int (iI x)), (2, .int (iI (k9 + 1)))]) ⟨rfl, rfl, rfl, trivial⟩ (ih (k9 + 1) w (by omega) (by omega) hS)
  obtain ⟨hn, u2, u3⟩ := id hm
  have k2 : g_cell E w im (gad E 62) _ := g_mut 62 (by omega) u2
  have k3 : g_cell E w im (gad E 63) _ := g_mut 63 (by omega) u3
  refine g_enter (by decide) rfl rfl (fun h => by first | rfl | cases h) (Nat.le_of_ble_eq_true rfl) rfl ?_
  refine g_iconst_i d_M_goesOn_0 ?_
  refine g_istore_n (n := 2) (i := 2) rfl (by decide) rfl d_M_goesOn_1 ?_
  refine g_cut ?_ (loop x.toNat 0 w (by omega) (by omega) (by rw [goF_0]; exact ⟨hm, fun _ _ => rfl⟩))
  exact ⟨rfl, rfl, rfl, trivial⟩

theorem c_M_advanceProblem {E : gE} {w : gW} {im : gIm} {Q : gQ} {f : Nat → Int} {m : Int → Int} (hm : MR E w f m) (ok : okM m) {x : Int} (rx : -2147483648 ≤ x ∧ x < 2147483648) (hQ1 : (0 ≤ x ∧ x ≤ 2880) → ¬ m 0 + x ≤ 43200 → Q (.inl (some (.int (iI 2)))) w im) (hQ2 : (0 ≤ x ∧ x ≤ 2880) → m 0 + x ≤ 43200 → Q (.inl (some (.int (iI 0)))) w im) (hQ3 : ¬ (0 ≤ x ∧ x ≤ 2880) → Q (.inl (some (.int (iI 1)))) w im) : GM E 1 y_M_advanceProblem m_M_advanceProblem 0 0 [.ref (gad E 62), .int (iI x)] w im Q := by
  obtain ⟨hn, u2, u3⟩ := id hm
  have k2 : g_cell E w im (gad E 62) _ := g_mut 62 (by omega) u2
  have k3 : g_cell E w im (gad E 63) _ := g_mut 63 (by omega) u3
  obtain ⟨z0, z1, z2, z3, z4, z5, z6, z7, z8, z9⟩ := id ok
  refine g_enter (by decide) rfl rfl (fun h => by first | rfl | cases h) (Nat.le_of_ble_eq_true rfl) rfl ?_
  refine g_iload_n (n := 1) (i := 1) rfl rfl d_M_advanceProblem_0 ?_
  refine g_iconst_i d_M_advanceProblem_1 ?_
  refine g_sipush_i (by decide) d_M_advanceProblem_2 ?_
  refine g_callS3 rfl rfl e_M_isIn l_M_45 st_M_isIn (by decide) (Nat.zero_le _) (Nat.zero_le _) (Nat.le_of_ble_eq_true rfl) d_M_advanceProblem_5 (c_M_isIn (by omega) (by omega) (by omega) (fun hA => ?_) (fun hA => ?_))
  · refine g_ret ?_
    refine g_if_ne_i (tgt := 15) (by decide) d_M_advanceProblem_8 (by decide) (fun h8 => ?_) (fun h => absurd h (by decide))
    refine g_aload_n (n := 0) (i := 0) rfl rfl d_M_advanceProblem_15 ?_
    refine g_getfield 9 0 f_M_9 (by assumption) (by rfl) d_M_advanceProblem_16 ?_
    refine g_iconst_i d_M_advanceProblem_19 ?_
    refine g_iaload_i (by assumption) (by omega) (by omega) (by rfl) d_M_advanceProblem_20 ?_
    refine g_iload_n (n := 1) (i := 1) rfl rfl d_M_advanceProblem_21 ?_
    refine g_iadd_i d_M_advanceProblem_22 ?_
    refine g_ldc_i (z := 43200) k_M_106 (by decide) d_M_advanceProblem_23 ?_
    refine g_icmp_le_i (tgt := 32) (by omega) (by decide) d_M_advanceProblem_25 (by decide) (fun h25 => ?_) (fun h25 => ?_)
    · refine g_iconst_i d_M_advanceProblem_32 ?_
      refine g_ireturn_i rfl d_M_advanceProblem_33 ?_
      first | exact hQ3 hA | exact hQ1 hA (by omega) | exact hQ2 hA (by omega)
    · refine g_iconst_i d_M_advanceProblem_28 ?_
      refine g_goto (tgt := 33) (by decide) d_M_advanceProblem_29 ?_
      refine g_ireturn_i rfl d_M_advanceProblem_33 ?_
      first | exact hQ3 hA | exact hQ1 hA (by omega) | exact hQ2 hA (by omega)
  · refine g_ret ?_
    refine g_if_ne_i (tgt := 15) (by decide) d_M_advanceProblem_8 (by decide) (fun h => absurd h (by decide)) (fun h8 => ?_)
    refine g_iconst_i d_M_advanceProblem_11 ?_
    refine g_goto (tgt := 33) (by decide) d_M_advanceProblem_12 ?_
    refine g_ireturn_i rfl d_M_advanceProblem_33 ?_
    first | exact hQ3 hA | exact hQ1 hA (by omega) | exact hQ2 hA (by omega)

def gAdv (m : Int → Int) (x : Int) : Int × Int × (Int → Int) := if 0 ≤ x ∧ x ≤ 2880 then (if m 0 + x ≤ 43200 then (0, m 0 + x, goF m x) else (2, 0, m)) else (1, 0, m)

theorem c_M_advance {E : gE} {w : gW} {im : gIm} {Q : gQ} {f : Nat → Int} {m : Int → Int} (hm : MR E w f m) (ok : okM m) {pa : Int → Int} (u4 : w 64 = intE 28488 pa) (u6 : ∃ tr, w 66 = intE 3561 tr) (r2 : 0 ≤ f 2 ∧ f 2 ≤ 8) {x : Int} (rx : -2147483648 ≤ x ∧ x < 2147483648) (hQ : ∀ t r m' w', (t, r, m') = gAdv m x → MOut E w f m pa t m' w' → Q (oV r) w' im) : GM E 2 y_M_advance m_M_advance 0 0 [.ref (gad E 62), .int (iI x)] w im Q := by
  obtain ⟨hn, u2, u3⟩ := id hm
  have k2 : g_cell E w im (gad E 62) _ := g_mut 62 (by omega) u2
  have k3 : g_cell E w im (gad E 63) _ := g_mut 63 (by omega) u3
  obtain ⟨z0, z1, z2, z3, z4, z5, z6, z7, z8, z9⟩ := id ok
  refine g_enter (by decide) rfl rfl (fun h => by first | rfl | cases h) (Nat.le_of_ble_eq_true rfl) rfl ?_
  refine g_aload_n (n := 0) (i := 0) rfl rfl d_M_advance_0 ?_
  refine g_aload_n (n := 0) (i := 0) rfl rfl d_M_advance_1 ?_
  refine g_iload_n (n := 1) (i := 1) rfl rfl d_M_advance_2 ?_
  refine g_callV1 rfl rfl e_M_advanceProblem l_M_107 iv_M_advanceProblem 9 (by decide) rfl (by assumption) (by decide) (Nat.zero_le _) (Nat.zero_le _) (Nat.le_of_ble_eq_true rfl) d_M_advance_3 (c_M_advanceProblem hm ok rx (fun hA hB => ?_) (fun hA hB => ?_) (fun hA => ?_))
  · refine g_ret ?_
    refine g_putA 9 6 62 (by omega) u2 f_M_33 (Or.inl rfl) (by rfl) (by rfl) (Nat.le_of_ble_eq_true rfl) d_M_advance_6 (fun w hs hn9 => ?_)
    have hth := hm.th (t := 2) hs hn9
    have hm0 := hm
    have hm := hth.1
    obtain ⟨hn, u2, u3⟩ := id hm
    have k2 : g_cell E w im (gad E 62) _ := g_mut 62 (by omega) u2
    have k3 : g_cell E w im (gad E 63) _ := g_mut 63 (by omega) u3
    have u4 := (hn9 64 (by omega)).trans u4
    have u6 : ∃ tr, w 66 = intE 3561 tr := by obtain ⟨tr, u6⟩ := u6; exact ⟨tr, (hn9 66 (by omega)).trans u6⟩
    have r22 : 0 ≤ fU f 6 (2) 2 ∧ fU f 6 (2) 2 ≤ 8 := r2
    refine g_aload_n (n := 0) (i := 0) rfl rfl d_M_advance_9 ?_
    refine g_getfield 9 6 f_M_33 k2 (by rfl) d_M_advance_10 ?_
    rw [hth.2.1]
    refine g_if_eq_i (tgt := 18) (by decide) d_M_advance_13 (by decide) (fun h => absurd h (by decide)) (fun h13 => ?_)
    refine g_iconst_i d_M_advance_16 ?_
    refine g_ireturn_i rfl d_M_advance_17 ?_
    exact hQ _ _ _ _ (by unfold gAdv; first | (rw [if_neg hA]; done) | (rw [if_pos hA, if_neg hB]; done)) (Or.inr ⟨by omega, rfl, ⟨_, hm, hth.2.1, hth.2.2, hn9⟩⟩)
  · refine g_ret ?_
    refine g_putA 9 6 62 (by omega) u2 f_M_33 (Or.inl rfl) (by rfl) (by rfl) (Nat.le_of_ble_eq_true rfl) d_M_advance_6 (fun w hs hn9 => ?_)
    have hth := hm.th (t := 0) hs hn9
    have hm0 := hm
    have hm := hth.1
    obtain ⟨hn, u2, u3⟩ := id hm
    have k2 : g_cell E w im (gad E 62) _ := g_mut 62 (by omega) u2
    have k3 : g_cell E w im (gad E 63) _ := g_mut 63 (by omega) u3
    have u4 := (hn9 64 (by omega)).trans u4
    have u6 : ∃ tr, w 66 = intE 3561 tr := by obtain ⟨tr, u6⟩ := u6; exact ⟨tr, (hn9 66 (by omega)).trans u6⟩
    have r22 : 0 ≤ fU f 6 (0) 2 ∧ fU f 6 (0) 2 ≤ 8 := r2
    refine g_aload_n (n := 0) (i := 0) rfl rfl d_M_advance_9 ?_
    refine g_getfield 9 6 f_M_33 k2 (by rfl) d_M_advance_10 ?_
    rw [hth.2.1]
    refine g_if_eq_i (tgt := 18) (by decide) d_M_advance_13 (by decide) (fun h13 => ?_) (fun h => absurd h (by decide))
    refine g_aload_n (n := 0) (i := 0) rfl rfl d_M_advance_18 ?_
    refine g_callV0 rfl rfl e_M_changes l_M_56 iv_M_changes 9 (by decide) rfl (by assumption) (by decide) (Nat.zero_le _) (Nat.zero_le _) (Nat.le_of_ble_eq_true rfl) d_M_advance_19 (c_M_changes hm u4 u6 r22 (fun w hG => ?_))
    refine g_retv ?_
    have hC := MCh.mk hth.2.2 hth.2.1 hn9 hG
    obtain ⟨f5, q5, hm, hC1, hC2, hC3, hC4, hC5, hC6, hC7⟩ := id hC
    obtain ⟨hn, u2, u3⟩ := id hm
    have k2 : g_cell E w im (gad E 62) _ := g_mut 62 (by omega) u2
    have k3 : g_cell E w im (gad E 63) _ := g_mut 63 (by omega) u3
    refine g_aload_n (n := 0) (i := 0) rfl rfl d_M_advance_22 ?_
    refine g_iload_n (n := 1) (i := 1) rfl rfl d_M_advance_23 ?_
    refine g_callV1 rfl rfl e_M_goesOn l_M_110 iv_M_goesOn 9 (by decide) rfl (by assumption) (by decide) (Nat.zero_le _) (Nat.zero_le _) (Nat.le_of_ble_eq_true rfl) d_M_advance_24 (c_M_goesOn hm ⟨by omega, by omega, by omega, by omega⟩ (fun w hS => ?_))
    refine g_retv ?_
    have hC := hC.ms hm hS
    obtain ⟨f5, q5, hm, hC1, hC2, hC3, hC4, hC5, hC6, hC7⟩ := id hC
    obtain ⟨hn, u2, u3⟩ := id hm
    have k2 : g_cell E w im (gad E 62) _ := g_mut 62 (by omega) u2
    have k3 : g_cell E w im (gad E 63) _ := g_mut 63 (by omega) u3
    refine g_aload_n (n := 0) (i := 0) rfl rfl d_M_advance_27 ?_
    refine g_getfield 9 0 f_M_9 (by assumption) (by rfl) d_M_advance_28 ?_
    refine g_iconst_i d_M_advance_31 ?_
    refine g_iaload_i (by assumption) (by omega) (by omega) (by rfl) d_M_advance_32 ?_
    refine g_ireturn_i rfl d_M_advance_33 ?_
    rw [goF_c]
    exact hQ 0 _ _ _ (by unfold gAdv; rw [if_pos hA, if_pos hB]) (Or.inl ⟨rfl, hC⟩)
  · refine g_ret ?_
    refine g_putA 9 6 62 (by omega) u2 f_M_33 (Or.inl rfl) (by rfl) (by rfl) (Nat.le_of_ble_eq_true rfl) d_M_advance_6 (fun w hs hn9 => ?_)
    have hth := hm.th (t := 1) hs hn9
    have hm0 := hm
    have hm := hth.1
    obtain ⟨hn, u2, u3⟩ := id hm
    have k2 : g_cell E w im (gad E 62) _ := g_mut 62 (by omega) u2
    have k3 : g_cell E w im (gad E 63) _ := g_mut 63 (by omega) u3
    have u4 := (hn9 64 (by omega)).trans u4
    have u6 : ∃ tr, w 66 = intE 3561 tr := by obtain ⟨tr, u6⟩ := u6; exact ⟨tr, (hn9 66 (by omega)).trans u6⟩
    have r22 : 0 ≤ fU f 6 (1) 2 ∧ fU f 6 (1) 2 ≤ 8 := r2
    refine g_aload_n (n := 0) (i := 0) rfl rfl d_M_advance_9 ?_
    refine g_getfield 9 6 f_M_33 k2 (by rfl) d_M_advance_10 ?_
    rw [hth.2.1]
    refine g_if_eq_i (tgt := 18) (by decide) d_M_advance_13 (by decide) (fun h => absurd h (by decide)) (fun h13 => ?_)
    refine g_iconst_i d_M_advance_16 ?_
    refine g_ireturn_i rfl d_M_advance_17 ?_
    exact hQ _ _ _ _ (by unfold gAdv; first | (rw [if_neg hA]; done) | (rw [if_pos hA, if_neg hB]; done)) (Or.inr ⟨by omega, rfl, ⟨_, hm, hth.2.1, hth.2.2, hn9⟩⟩)

/-- another row is brought here -/
def cpy (s m : Int → Int) (k : Int) : Int → Int := fun j => if 0 ≤ j ∧ j < k then s j else m j
theorem cpy_0 {s m : Int → Int} : cpy s m 0 = m := by
  funext j
  exact if_neg (by omega)
theorem cpy_s {s m : Int → Int} {k : Int} (h : 0 ≤ k) : uI (cpy s m k) k (s k) = cpy s m (k + 1) := by
  funext j
  unfold cpy
  simp only [uI]
  by_cases e : j = k
  · rw [if_pos e, if_pos (by omega), e]
  · rw [if_neg e]
    by_cases h2 : 0 ≤ j ∧ j < k
    · rw [if_pos h2, if_pos (by omega)]
    · rw [if_neg h2, if_neg (by omega)]

theorem c_M_clear {E : gE} {w : gW} {im : gIm} {Q : gQ} {f : Nat → Int} {m : Int → Int} (hm : MR E w f m) (ok : okM m) (hQ : ∀ w', MR E w' (fU (fU (fU f 6 0) 2 0) 7 0) (uI (cpy (fun _ => 0) m 3561) 0 480) → (∀ j, j ≠ 62 → j ≠ 63 → w' j = w j) → Q (oV (m 3)) w' im) : GM E 0 y_M_clear m_M_clear 0 0 [.ref (gad E 62)] w im Q := by
  obtain ⟨hn, u2, u3⟩ := id hm
  have k2 : g_cell E w im (gad E 62) _ := g_mut 62 (by omega) u2
  have k3 : g_cell E w im (gad E 63) _ := g_mut 63 (by omega) u3
  obtain ⟨z0, z1, z2, z3, z4, z5, z6, z7, z8, z9⟩ := id ok
  refine g_enter (by decide) rfl rfl (fun h => by first | rfl | cases h) (Nat.le_of_ble_eq_true rfl) rfl ?_
  refine g_aload_n (n := 0) (i := 0) rfl rfl d_M_clear_0 ?_
  refine g_iconst_i d_M_clear_1 ?_
  refine g_putA 9 6 62 (by omega) u2 f_M_33 (Or.inl rfl) (by rfl) (by rfl) (Nat.le_of_ble_eq_true rfl) d_M_clear_2 (fun w hs hn9 => ?_)
  have hth := hm.th (t := 0) hs hn9
  have hm0 := hm
  have hm := hth.1
  obtain ⟨hn, u2, u3⟩ := id hm
  have k2 : g_cell E w im (gad E 62) _ := g_mut 62 (by omega) u2
  have k3 : g_cell E w im (gad E 63) _ := g_mut 63 (by omega) u3
  have hn90 := hn9
  have loop : ∀ (n9 : Nat) (k9 : Int) (w1 : gW), 0 ≤ k9 → k9 + n9 = 3561 → MS E w (fU f 6 0) (cpy (fun _ => 0) m k9) w1 → G E 0 m_M_clear 14 [(0, .ref (gad E 62)), (1, .int (iI (m 3))), (2, .int (iI k9))] [] w1 im 0 0 Q := by
    intro n9
    induction n9 with
    | zero =>
      intro k9 w h9 hk9 hS
      have e9 : k9 = 3561 := by omega
      rw [e9] at hS
      obtain ⟨hm, hw9⟩ := id hS
      obtain ⟨hn, u2, u3⟩ := id hm
      have k2 : g_cell E w im (gad E 62) _ := g_mut 62 (by omega) u2
      have k3 : g_cell E w im (gad E 63) _ := g_mut 63 (by omega) u3
      refine g_iload_n (n := 2) (i := 2) rfl rfl d_M_clear_14 ?_
      refine g_sipush_i (by decide) d_M_clear_15 ?_
      refine g_icmp_ge_i (tgt := 34) (by omega) (by decide) d_M_clear_18 (by decide) (fun h18 => ?_) (fun h => by exfalso; omega)
      refine g_aload_n (n := 0) (i := 0) rfl rfl d_M_clear_34 ?_
      refine g_getfield 9 0 f_M_9 (by assumption) (by rfl) d_M_clear_35 ?_
      refine g_iconst_i d_M_clear_38 ?_
      refine g_sipush_i (by decide) d_M_clear_39 ?_
      refine g_iastoreA 63 (by omega) u3 (by omega) (by omega) (by rfl) d_M_clear_42 (fun w3 hs3 hn3 => ?_)
      have hS3 := hS.trans (hm.row hs3 hn3)
      have u2 := hS3.1.2.1
      have k2 : g_cell E w3 im (gad E 62) _ := g_mut 62 (by omega) u2
      refine g_aload_n (n := 0) (i := 0) rfl rfl d_M_clear_43 ?_
      refine g_iconst_i d_M_clear_44 ?_
      refine g_putA 9 2 62 (by omega) u2 f_M_36 (Or.inl rfl) (by rfl) (by rfl) (Nat.le_of_ble_eq_true rfl) d_M_clear_45 (fun w2 hs2 hn2 => ?_)
      have hs2 : w2 62 = mE E (fU (fU f 6 0) 2 0) := hs2
      refine g_aload_n (n := 0) (i := 0) rfl rfl d_M_clear_48 ?_
      refine g_iconst_i d_M_clear_49 ?_
      refine g_putA 9 7 62 (by omega) hs2 f_M_49 (Or.inl rfl) (by rfl) (by rfl) (Nat.le_of_ble_eq_true rfl) d_M_clear_50 (fun w4 hs4 hn4 => ?_)
      refine g_iload_n (n := 1) (i := 1) rfl rfl d_M_clear_53 ?_
      refine g_ireturn_i rfl d_M_clear_54 ?_
      exact hQ _ ⟨hn, hs4, (hn4 63 (by omega)).trans ((hn2 63 (by omega)).trans hS3.1.2.2)⟩ (fun j h1 h2 => (hn4 j h1).trans ((hn2 j h1).trans ((hS3.2 j h2).trans (hn90 j h1))))
    | succ n9 ih =>
      intro k9 w h9 hk9 hS
      obtain ⟨hm, hw9⟩ := id hS
      obtain ⟨hn, u2, u3⟩ := id hm
      have k2 : g_cell E w im (gad E 62) _ := g_mut 62 (by omega) u2
      have k3 : g_cell E w im (gad E 63) _ := g_mut 63 (by omega) u3
      refine g_iload_n (n := 2) (i := 2) rfl rfl d_M_clear_14 ?_
      refine g_sipush_i (by decide) d_M_clear_15 ?_
      refine g_icmp_ge_i (tgt := 34) (by omega) (by decide) d_M_clear_18 (by decide) (fun h => by exfalso; omega) (fun h18 => ?_)
      refine g_aload_n (n := 0) (i := 0) rfl rfl d_M_clear_21 ?_
      refine g_getfield 9 0 f_M_9 (by assumption) (by rfl) d_M_clear_22 ?_
      refine g_iload_n (n := 2) (i := 2) rfl rfl d_M_clear_25 ?_
      refine g_iconst_i d_M_clear_26 ?_
      refine g_iastoreA 63 (by omega) u3 (by omega) (by omega) (by rfl) d_M_clear_27 (fun w hs hn9 => ?_)
      have hS := hS.trans (hm.row hs hn9)
      rw [cpy_s (s := fun _ => 0) h9] at hS
      refine g_iinc_i (i := 2) rfl (by decide) rfl d_M_clear_28 ?_
      refine g_goto (tgt := 14) (by decide) d_M_clear_31 ?_
      exact g_cut (lv' := [(0, .ref (gad E 62)), (1, .int (iI (m 3))), (2, .int (iI (k9 + 1)))]) ⟨rfl, rfl, rfl, trivial⟩ (ih (k9 + 1) w (by omega) (by omega) hS)
  refine g_aload_n (n := 0) (i := 0) rfl rfl d_M_clear_5 ?_
  refine g_getfield 9 0 f_M_9 (by assumption) (by rfl) d_M_clear_6 ?_
  refine g_iconst_i d_M_clear_9 ?_
  refine g_iaload_i (by assumption) (by omega) (by omega) (by rfl) d_M_clear_10 ?_
  refine g_istore_n (n := 1) (i := 1) rfl (by decide) rfl d_M_clear_11 ?_
  refine g_iconst_i d_M_clear_12 ?_
  refine g_istore_n (n := 2) (i := 2) rfl (by decide) rfl d_M_clear_13 ?_
  refine g_cut ?_ (loop 3561 0 w (by omega) (by omega) (by rw [cpy_0]; exact ⟨hm, fun _ _ => rfl⟩))
  exact ⟨rfl, rfl, rfl, trivial⟩

